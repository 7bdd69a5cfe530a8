/-! ===== the law: its loop, and its body ===== -/
theorem ot_and63 (x : Int32) : ∃ k, k < 64 ∧ x &&& nI 63 = nI k := by
  refine ⟨x.toBitVec.toNat % 64, Nat.mod_lt _ (by decide), Int32.toBitVec_inj.mp (BitVec.eq_of_toNat_eq ?_)⟩
  rw [Int32.toBitVec_and, BitVec.toNat_and]
  have e1 : (nI 63).toBitVec.toNat = 2 ^ 6 - 1 := by decide
  have hlt : x.toBitVec.toNat % 64 < 64 := Nat.mod_lt _ (by decide)
  have e2 : (nI (x.toBitVec.toNat % 64)).toBitVec.toNat = x.toBitVec.toNat % 64 := by
    show (BitVec.ofNat 32 (x.toBitVec.toNat % 64)).toNat = _
    rw [BitVec.toNat_ofNat]
    exact Nat.mod_eq_of_lt (Nat.lt_trans hlt (by decide))
  rw [e1, e2, Nat.and_two_pow_sub_one_eq_mod]
theorem ot_m6 {n i : Nat} (hn : n ≤ 3072) (hi : i ≤ 4000) : nI n - nI 6 < nI i ↔ n < i + 6 := by
  rw [Int32.lt_iff_toInt_lt, pk_sub_toInt (by omega) (by omega), nI_toInt (by omega)]
  omega
set_option maxRecDepth 20000 in
theorem lw_sw0 {nm : String} {Lx : Nat} {xs : Nat → Int32} {i : Nat} (hi : i + 6 ≤ Lx) (hL : Lx ≤ 3072) (hN : ot_Nx nm Lx xs i) : ∀ (G : jv_Gr) (I : jv_I) (J : jv_J) (Y Z : ot_Y) (E : ot_E) (K : Option ot_Y), ot_C G I J Y Z E K → ot_M G I J Y Z E K → ∃ G' I' J', jw_V Lx xs 30 (mL_law nm) 33 [.ref (1000000 + 400), .ref 1, .ref 64, .int (nI i)] [.int (nI 0)] G I J (some (.int (nI 1))) G' I' J' ∧ jv_n G' ≤ 153 ∧ jv_s G' ≤ 5000 := fun G I J Y Z E K hC hM => by
  obtain ⟨G', I', J', hV, hb⟩ := lw_case0 hi hL hN G I J Y Z E K hC hM
  exact ⟨G', I', J', jw_tableIn dL_law_33 (by decide) (by decide) (off := 247) rfl (by decide) hV, hb⟩
set_option maxRecDepth 20000 in
theorem lw_sw1 {nm : String} {Lx : Nat} {xs : Nat → Int32} {i : Nat} (hi : i + 6 ≤ Lx) (hL : Lx ≤ 3072) (hN : ot_Nx nm Lx xs i) : ∀ (G : jv_Gr) (I : jv_I) (J : jv_J) (Y Z : ot_Y) (E : ot_E) (K : Option ot_Y), ot_C G I J Y Z E K → ot_M G I J Y Z E K → ∃ G' I' J', jw_V Lx xs 30 (mL_law nm) 33 [.ref (1000000 + 400), .ref 1, .ref 64, .int (nI i)] [.int (nI 1)] G I J (some (.int (nI 1))) G' I' J' ∧ jv_n G' ≤ 153 ∧ jv_s G' ≤ 5000 := fun G I J Y Z E K hC hM => by
  obtain ⟨G', I', J', hV, hb⟩ := lw_case1 hi hL hN G I J Y Z E K hC hM
  exact ⟨G', I', J', jw_tableIn dL_law_33 (by decide) (by decide) (off := 290) rfl (by decide) hV, hb⟩
set_option maxRecDepth 20000 in
theorem lw_sw2 {nm : String} {Lx : Nat} {xs : Nat → Int32} {i : Nat} (hi : i + 6 ≤ Lx) (hL : Lx ≤ 3072) (hN : ot_Nx nm Lx xs i) : ∀ (G : jv_Gr) (I : jv_I) (J : jv_J) (Y Z : ot_Y) (E : ot_E) (K : Option ot_Y), ot_C G I J Y Z E K → ot_M G I J Y Z E K → ∃ G' I' J', jw_V Lx xs 30 (mL_law nm) 33 [.ref (1000000 + 400), .ref 1, .ref 64, .int (nI i)] [.int (nI 2)] G I J (some (.int (nI 1))) G' I' J' ∧ jv_n G' ≤ 153 ∧ jv_s G' ≤ 5000 := fun G I J Y Z E K hC hM => by
  obtain ⟨G', I', J', hV, hb⟩ := lw_case2 hi hL hN G I J Y Z E K hC hM
  exact ⟨G', I', J', jw_tableIn dL_law_33 (by decide) (by decide) (off := 363) rfl (by decide) hV, hb⟩
set_option maxRecDepth 20000 in
theorem lw_sw3 {nm : String} {Lx : Nat} {xs : Nat → Int32} {i : Nat} (hi : i + 6 ≤ Lx) (hL : Lx ≤ 3072) (hN : ot_Nx nm Lx xs i) : ∀ (G : jv_Gr) (I : jv_I) (J : jv_J) (Y Z : ot_Y) (E : ot_E) (K : Option ot_Y), ot_C G I J Y Z E K → ot_M G I J Y Z E K → ∃ G' I' J', jw_V Lx xs 30 (mL_law nm) 33 [.ref (1000000 + 400), .ref 1, .ref 64, .int (nI i)] [.int (nI 3)] G I J (some (.int (nI 1))) G' I' J' ∧ jv_n G' ≤ 153 ∧ jv_s G' ≤ 5000 := fun G I J Y Z E K hC hM => by
  obtain ⟨G', I', J', hV, hb⟩ := lw_case3 hi hL hN G I J Y Z E K hC hM
  exact ⟨G', I', J', jw_tableIn dL_law_33 (by decide) (by decide) (off := 426) rfl (by decide) hV, hb⟩
set_option maxRecDepth 20000 in
theorem lw_sw4 {nm : String} {Lx : Nat} {xs : Nat → Int32} {i : Nat} (hi : i + 6 ≤ Lx) (hL : Lx ≤ 3072) (hN : ot_Nx nm Lx xs i) : ∀ (G : jv_Gr) (I : jv_I) (J : jv_J) (Y Z : ot_Y) (E : ot_E) (K : Option ot_Y), ot_C G I J Y Z E K → ot_M G I J Y Z E K → ∃ G' I' J', jw_V Lx xs 30 (mL_law nm) 33 [.ref (1000000 + 400), .ref 1, .ref 64, .int (nI i)] [.int (nI 4)] G I J (some (.int (nI 1))) G' I' J' ∧ jv_n G' ≤ 153 ∧ jv_s G' ≤ 5000 := fun G I J Y Z E K hC hM => by
  obtain ⟨G', I', J', hV, hb⟩ := lw_case4 hi hL hN G I J Y Z E K hC hM
  exact ⟨G', I', J', jw_tableIn dL_law_33 (by decide) (by decide) (off := 460) rfl (by decide) hV, hb⟩
set_option maxRecDepth 20000 in
theorem lw_sw5 {nm : String} {Lx : Nat} {xs : Nat → Int32} {i : Nat} (hi : i + 6 ≤ Lx) (hL : Lx ≤ 3072) (hN : ot_Nx nm Lx xs i) : ∀ (G : jv_Gr) (I : jv_I) (J : jv_J) (Y Z : ot_Y) (E : ot_E) (K : Option ot_Y), ot_C G I J Y Z E K → ot_M G I J Y Z E K → ∃ G' I' J', jw_V Lx xs 30 (mL_law nm) 33 [.ref (1000000 + 400), .ref 1, .ref 64, .int (nI i)] [.int (nI 5)] G I J (some (.int (nI 1))) G' I' J' ∧ jv_n G' ≤ 153 ∧ jv_s G' ≤ 5000 := fun G I J Y Z E K hC hM => by
  obtain ⟨G', I', J', hV, hb⟩ := lw_case5 hi hL hN G I J Y Z E K hC hM
  exact ⟨G', I', J', jw_tableIn dL_law_33 (by decide) (by decide) (off := 483) rfl (by decide) hV, hb⟩
set_option maxRecDepth 20000 in
theorem lw_sw6 {nm : String} {Lx : Nat} {xs : Nat → Int32} {i : Nat} (hi : i + 6 ≤ Lx) (hL : Lx ≤ 3072) (hN : ot_Nx nm Lx xs i) : ∀ (G : jv_Gr) (I : jv_I) (J : jv_J) (Y Z : ot_Y) (E : ot_E) (K : Option ot_Y), ot_C G I J Y Z E K → ot_M G I J Y Z E K → ∃ G' I' J', jw_V Lx xs 30 (mL_law nm) 33 [.ref (1000000 + 400), .ref 1, .ref 64, .int (nI i)] [.int (nI 6)] G I J (some (.int (nI 1))) G' I' J' ∧ jv_n G' ≤ 153 ∧ jv_s G' ≤ 5000 := fun G I J Y Z E K hC hM => by
  obtain ⟨G', I', J', hV, hb⟩ := lw_case6 hi hL hN G I J Y Z E K hC hM
  exact ⟨G', I', J', jw_tableIn dL_law_33 (by decide) (by decide) (off := 516) rfl (by decide) hV, hb⟩
set_option maxRecDepth 20000 in
theorem lw_sw7 {nm : String} {Lx : Nat} {xs : Nat → Int32} {i : Nat} (hi : i + 6 ≤ Lx) (hL : Lx ≤ 3072) (hN : ot_Nx nm Lx xs i) : ∀ (G : jv_Gr) (I : jv_I) (J : jv_J) (Y Z : ot_Y) (E : ot_E) (K : Option ot_Y), ot_C G I J Y Z E K → ot_M G I J Y Z E K → ∃ G' I' J', jw_V Lx xs 30 (mL_law nm) 33 [.ref (1000000 + 400), .ref 1, .ref 64, .int (nI i)] [.int (nI 7)] G I J (some (.int (nI 1))) G' I' J' ∧ jv_n G' ≤ 153 ∧ jv_s G' ≤ 5000 := fun G I J Y Z E K hC hM => by
  obtain ⟨G', I', J', hV, hb⟩ := lw_case7 hi hL hN G I J Y Z E K hC hM
  exact ⟨G', I', J', jw_tableIn dL_law_33 (by decide) (by decide) (off := 549) rfl (by decide) hV, hb⟩
set_option maxRecDepth 20000 in
theorem lw_sw8 {nm : String} {Lx : Nat} {xs : Nat → Int32} {i : Nat} (hi : i + 6 ≤ Lx) (hL : Lx ≤ 3072) (hN : ot_Nx nm Lx xs i) : ∀ (G : jv_Gr) (I : jv_I) (J : jv_J) (Y Z : ot_Y) (E : ot_E) (K : Option ot_Y), ot_C G I J Y Z E K → ot_M G I J Y Z E K → ∃ G' I' J', jw_V Lx xs 30 (mL_law nm) 33 [.ref (1000000 + 400), .ref 1, .ref 64, .int (nI i)] [.int (nI 8)] G I J (some (.int (nI 1))) G' I' J' ∧ jv_n G' ≤ 153 ∧ jv_s G' ≤ 5000 := fun G I J Y Z E K hC hM => by
  obtain ⟨G', I', J', hV, hb⟩ := lw_case8 hi hL hN G I J Y Z E K hC hM
  exact ⟨G', I', J', jw_tableIn dL_law_33 (by decide) (by decide) (off := 582) rfl (by decide) hV, hb⟩
set_option maxRecDepth 20000 in
theorem lw_sw9 {nm : String} {Lx : Nat} {xs : Nat → Int32} {i : Nat} (hi : i + 6 ≤ Lx) (hL : Lx ≤ 3072) (hN : ot_Nx nm Lx xs i) : ∀ (G : jv_Gr) (I : jv_I) (J : jv_J) (Y Z : ot_Y) (E : ot_E) (K : Option ot_Y), ot_C G I J Y Z E K → ot_M G I J Y Z E K → ∃ G' I' J', jw_V Lx xs 30 (mL_law nm) 33 [.ref (1000000 + 400), .ref 1, .ref 64, .int (nI i)] [.int (nI 9)] G I J (some (.int (nI 1))) G' I' J' ∧ jv_n G' ≤ 153 ∧ jv_s G' ≤ 5000 := fun G I J Y Z E K hC hM => by
  obtain ⟨G', I', J', hV, hb⟩ := lw_case9 hi hL hN G I J Y Z E K hC hM
  exact ⟨G', I', J', jw_tableIn dL_law_33 (by decide) (by decide) (off := 625) rfl (by decide) hV, hb⟩
set_option maxRecDepth 20000 in
theorem lw_sw10 {nm : String} {Lx : Nat} {xs : Nat → Int32} {i : Nat} (hi : i + 6 ≤ Lx) (hL : Lx ≤ 3072) (hN : ot_Nx nm Lx xs i) : ∀ (G : jv_Gr) (I : jv_I) (J : jv_J) (Y Z : ot_Y) (E : ot_E) (K : Option ot_Y), ot_C G I J Y Z E K → ot_M G I J Y Z E K → ∃ G' I' J', jw_V Lx xs 30 (mL_law nm) 33 [.ref (1000000 + 400), .ref 1, .ref 64, .int (nI i)] [.int (nI 10)] G I J (some (.int (nI 1))) G' I' J' ∧ jv_n G' ≤ 153 ∧ jv_s G' ≤ 5000 := fun G I J Y Z E K hC hM => by
  obtain ⟨G', I', J', hV, hb⟩ := lw_case10 hi hL hN G I J Y Z E K hC hM
  exact ⟨G', I', J', jw_tableIn dL_law_33 (by decide) (by decide) (off := 694) rfl (by decide) hV, hb⟩
set_option maxRecDepth 20000 in
theorem lw_sw11 {nm : String} {Lx : Nat} {xs : Nat → Int32} {i : Nat} (hi : i + 6 ≤ Lx) (hL : Lx ≤ 3072) (hN : ot_Nx nm Lx xs i) : ∀ (G : jv_Gr) (I : jv_I) (J : jv_J) (Y Z : ot_Y) (E : ot_E) (K : Option ot_Y), ot_C G I J Y Z E K → ot_M G I J Y Z E K → ∃ G' I' J', jw_V Lx xs 30 (mL_law nm) 33 [.ref (1000000 + 400), .ref 1, .ref 64, .int (nI i)] [.int (nI 11)] G I J (some (.int (nI 1))) G' I' J' ∧ jv_n G' ≤ 153 ∧ jv_s G' ≤ 5000 := fun G I J Y Z E K hC hM => by
  obtain ⟨G', I', J', hV, hb⟩ := lw_case11 hi hL hN G I J Y Z E K hC hM
  exact ⟨G', I', J', jw_tableIn dL_law_33 (by decide) (by decide) (off := 707) rfl (by decide) hV, hb⟩
set_option maxRecDepth 20000 in
theorem lw_sw12 {nm : String} {Lx : Nat} {xs : Nat → Int32} {i : Nat} (hi : i + 6 ≤ Lx) (hL : Lx ≤ 3072) (hN : ot_Nx nm Lx xs i) : ∀ (G : jv_Gr) (I : jv_I) (J : jv_J) (Y Z : ot_Y) (E : ot_E) (K : Option ot_Y), ot_C G I J Y Z E K → ot_M G I J Y Z E K → ∃ G' I' J', jw_V Lx xs 30 (mL_law nm) 33 [.ref (1000000 + 400), .ref 1, .ref 64, .int (nI i)] [.int (nI 12)] G I J (some (.int (nI 1))) G' I' J' ∧ jv_n G' ≤ 153 ∧ jv_s G' ≤ 5000 := fun G I J Y Z E K hC hM => by
  obtain ⟨G', I', J', hV, hb⟩ := lw_case12 hi hL hN G I J Y Z E K hC hM
  exact ⟨G', I', J', jw_tableIn dL_law_33 (by decide) (by decide) (off := 730) rfl (by decide) hV, hb⟩
set_option maxRecDepth 20000 in
theorem lw_sw13 {nm : String} {Lx : Nat} {xs : Nat → Int32} {i : Nat} (hi : i + 6 ≤ Lx) (hL : Lx ≤ 3072) (hN : ot_Nx nm Lx xs i) : ∀ (G : jv_Gr) (I : jv_I) (J : jv_J) (Y Z : ot_Y) (E : ot_E) (K : Option ot_Y), ot_C G I J Y Z E K → ot_M G I J Y Z E K → ∃ G' I' J', jw_V Lx xs 30 (mL_law nm) 33 [.ref (1000000 + 400), .ref 1, .ref 64, .int (nI i)] [.int (nI 13)] G I J (some (.int (nI 1))) G' I' J' ∧ jv_n G' ≤ 153 ∧ jv_s G' ≤ 5000 := fun G I J Y Z E K hC hM => by
  obtain ⟨G', I', J', hV, hb⟩ := lw_case13 hi hL hN G I J Y Z E K hC hM
  exact ⟨G', I', J', jw_tableIn dL_law_33 (by decide) (by decide) (off := 743) rfl (by decide) hV, hb⟩
set_option maxRecDepth 20000 in
theorem lw_sw14 {nm : String} {Lx : Nat} {xs : Nat → Int32} {i : Nat} (hi : i + 6 ≤ Lx) (hL : Lx ≤ 3072) (hN : ot_Nx nm Lx xs i) : ∀ (G : jv_Gr) (I : jv_I) (J : jv_J) (Y Z : ot_Y) (E : ot_E) (K : Option ot_Y), ot_C G I J Y Z E K → ot_M G I J Y Z E K → ∃ G' I' J', jw_V Lx xs 30 (mL_law nm) 33 [.ref (1000000 + 400), .ref 1, .ref 64, .int (nI i)] [.int (nI 14)] G I J (some (.int (nI 1))) G' I' J' ∧ jv_n G' ≤ 153 ∧ jv_s G' ≤ 5000 := fun G I J Y Z E K hC hM => by
  obtain ⟨G', I', J', hV, hb⟩ := lw_case14 hi hL hN G I J Y Z E K hC hM
  exact ⟨G', I', J', jw_tableIn dL_law_33 (by decide) (by decide) (off := 756) rfl (by decide) hV, hb⟩
set_option maxRecDepth 20000 in
theorem lw_sw15 {nm : String} {Lx : Nat} {xs : Nat → Int32} {i : Nat} (hi : i + 6 ≤ Lx) (hL : Lx ≤ 3072) (hN : ot_Nx nm Lx xs i) : ∀ (G : jv_Gr) (I : jv_I) (J : jv_J) (Y Z : ot_Y) (E : ot_E) (K : Option ot_Y), ot_C G I J Y Z E K → ot_M G I J Y Z E K → ∃ G' I' J', jw_V Lx xs 30 (mL_law nm) 33 [.ref (1000000 + 400), .ref 1, .ref 64, .int (nI i)] [.int (nI 15)] G I J (some (.int (nI 1))) G' I' J' ∧ jv_n G' ≤ 153 ∧ jv_s G' ≤ 5000 := fun G I J Y Z E K hC hM => by
  obtain ⟨G', I', J', hV, hb⟩ := lw_case15 hi hL hN G I J Y Z E K hC hM
  exact ⟨G', I', J', jw_tableIn dL_law_33 (by decide) (by decide) (off := 789) rfl (by decide) hV, hb⟩
set_option maxRecDepth 20000 in
theorem lw_sw16 {nm : String} {Lx : Nat} {xs : Nat → Int32} {i : Nat} (hi : i + 6 ≤ Lx) (hL : Lx ≤ 3072) (hN : ot_Nx nm Lx xs i) : ∀ (G : jv_Gr) (I : jv_I) (J : jv_J) (Y Z : ot_Y) (E : ot_E) (K : Option ot_Y), ot_C G I J Y Z E K → ot_M G I J Y Z E K → ∃ G' I' J', jw_V Lx xs 30 (mL_law nm) 33 [.ref (1000000 + 400), .ref 1, .ref 64, .int (nI i)] [.int (nI 16)] G I J (some (.int (nI 1))) G' I' J' ∧ jv_n G' ≤ 153 ∧ jv_s G' ≤ 5000 := fun G I J Y Z E K hC hM => by
  obtain ⟨G', I', J', hV, hb⟩ := lw_case16 hi hL hN G I J Y Z E K hC hM
  exact ⟨G', I', J', jw_tableIn dL_law_33 (by decide) (by decide) (off := 822) rfl (by decide) hV, hb⟩
set_option maxRecDepth 20000 in
theorem lw_sw17 {nm : String} {Lx : Nat} {xs : Nat → Int32} {i : Nat} (hi : i + 6 ≤ Lx) (hL : Lx ≤ 3072) (hN : ot_Nx nm Lx xs i) : ∀ (G : jv_Gr) (I : jv_I) (J : jv_J) (Y Z : ot_Y) (E : ot_E) (K : Option ot_Y), ot_C G I J Y Z E K → ot_M G I J Y Z E K → ∃ G' I' J', jw_V Lx xs 30 (mL_law nm) 33 [.ref (1000000 + 400), .ref 1, .ref 64, .int (nI i)] [.int (nI 17)] G I J (some (.int (nI 1))) G' I' J' ∧ jv_n G' ≤ 153 ∧ jv_s G' ≤ 5000 := fun G I J Y Z E K hC hM => by
  obtain ⟨G', I', J', hV, hb⟩ := lw_case17 hi hL hN G I J Y Z E K hC hM
  exact ⟨G', I', J', jw_tableIn dL_law_33 (by decide) (by decide) (off := 855) rfl (by decide) hV, hb⟩
set_option maxRecDepth 20000 in
theorem lw_sw18 {nm : String} {Lx : Nat} {xs : Nat → Int32} {i : Nat} (hi : i + 6 ≤ Lx) (hL : Lx ≤ 3072) (hN : ot_Nx nm Lx xs i) : ∀ (G : jv_Gr) (I : jv_I) (J : jv_J) (Y Z : ot_Y) (E : ot_E) (K : Option ot_Y), ot_C G I J Y Z E K → ot_M G I J Y Z E K → ∃ G' I' J', jw_V Lx xs 30 (mL_law nm) 33 [.ref (1000000 + 400), .ref 1, .ref 64, .int (nI i)] [.int (nI 18)] G I J (some (.int (nI 1))) G' I' J' ∧ jv_n G' ≤ 153 ∧ jv_s G' ≤ 5000 := fun G I J Y Z E K hC hM => by
  obtain ⟨G', I', J', hV, hb⟩ := lw_case18 hi hL hN G I J Y Z E K hC hM
  exact ⟨G', I', J', jw_tableIn dL_law_33 (by decide) (by decide) (off := 878) rfl (by decide) hV, hb⟩
set_option maxRecDepth 20000 in
theorem lw_sw19 {nm : String} {Lx : Nat} {xs : Nat → Int32} {i : Nat} (hi : i + 6 ≤ Lx) (hL : Lx ≤ 3072) (hN : ot_Nx nm Lx xs i) : ∀ (G : jv_Gr) (I : jv_I) (J : jv_J) (Y Z : ot_Y) (E : ot_E) (K : Option ot_Y), ot_C G I J Y Z E K → ot_M G I J Y Z E K → ∃ G' I' J', jw_V Lx xs 30 (mL_law nm) 33 [.ref (1000000 + 400), .ref 1, .ref 64, .int (nI i)] [.int (nI 19)] G I J (some (.int (nI 1))) G' I' J' ∧ jv_n G' ≤ 153 ∧ jv_s G' ≤ 5000 := fun G I J Y Z E K hC hM => by
  obtain ⟨G', I', J', hV, hb⟩ := lw_case19 hi hL hN G I J Y Z E K hC hM
  exact ⟨G', I', J', jw_tableIn dL_law_33 (by decide) (by decide) (off := 911) rfl (by decide) hV, hb⟩
set_option maxRecDepth 20000 in
theorem lw_sw20 {nm : String} {Lx : Nat} {xs : Nat → Int32} {i : Nat} (hi : i + 6 ≤ Lx) (hL : Lx ≤ 3072) (hN : ot_Nx nm Lx xs i) : ∀ (G : jv_Gr) (I : jv_I) (J : jv_J) (Y Z : ot_Y) (E : ot_E) (K : Option ot_Y), ot_C G I J Y Z E K → ot_M G I J Y Z E K → ∃ G' I' J', jw_V Lx xs 30 (mL_law nm) 33 [.ref (1000000 + 400), .ref 1, .ref 64, .int (nI i)] [.int (nI 20)] G I J (some (.int (nI 1))) G' I' J' ∧ jv_n G' ≤ 153 ∧ jv_s G' ≤ 5000 := fun G I J Y Z E K hC hM => by
  obtain ⟨G', I', J', hV, hb⟩ := lw_case20 hi hL hN G I J Y Z E K hC hM
  exact ⟨G', I', J', jw_tableIn dL_law_33 (by decide) (by decide) (off := 944) rfl (by decide) hV, hb⟩
set_option maxRecDepth 20000 in
theorem lw_sw21 {nm : String} {Lx : Nat} {xs : Nat → Int32} {i : Nat} (hi : i + 6 ≤ Lx) (hL : Lx ≤ 3072) (hN : ot_Nx nm Lx xs i) : ∀ (G : jv_Gr) (I : jv_I) (J : jv_J) (Y Z : ot_Y) (E : ot_E) (K : Option ot_Y), ot_C G I J Y Z E K → ot_M G I J Y Z E K → ∃ G' I' J', jw_V Lx xs 30 (mL_law nm) 33 [.ref (1000000 + 400), .ref 1, .ref 64, .int (nI i)] [.int (nI 21)] G I J (some (.int (nI 1))) G' I' J' ∧ jv_n G' ≤ 153 ∧ jv_s G' ≤ 5000 := fun G I J Y Z E K hC hM => by
  obtain ⟨G', I', J', hV, hb⟩ := lw_case21 hi hL hN G I J Y Z E K hC hM
  exact ⟨G', I', J', jw_tableIn dL_law_33 (by decide) (by decide) (off := 977) rfl (by decide) hV, hb⟩
set_option maxRecDepth 20000 in
theorem lw_sw22 {nm : String} {Lx : Nat} {xs : Nat → Int32} {i : Nat} (hi : i + 6 ≤ Lx) (hL : Lx ≤ 3072) (hN : ot_Nx nm Lx xs i) : ∀ (G : jv_Gr) (I : jv_I) (J : jv_J) (Y Z : ot_Y) (E : ot_E) (K : Option ot_Y), ot_C G I J Y Z E K → ot_M G I J Y Z E K → ∃ G' I' J', jw_V Lx xs 30 (mL_law nm) 33 [.ref (1000000 + 400), .ref 1, .ref 64, .int (nI i)] [.int (nI 22)] G I J (some (.int (nI 1))) G' I' J' ∧ jv_n G' ≤ 153 ∧ jv_s G' ≤ 5000 := fun G I J Y Z E K hC hM => by
  obtain ⟨G', I', J', hV, hb⟩ := lw_case22 hi hL hN G I J Y Z E K hC hM
  exact ⟨G', I', J', jw_tableIn dL_law_33 (by decide) (by decide) (off := 1000) rfl (by decide) hV, hb⟩
set_option maxRecDepth 20000 in
theorem lw_sw23 {nm : String} {Lx : Nat} {xs : Nat → Int32} {i : Nat} (hi : i + 6 ≤ Lx) (hL : Lx ≤ 3072) (hN : ot_Nx nm Lx xs i) : ∀ (G : jv_Gr) (I : jv_I) (J : jv_J) (Y Z : ot_Y) (E : ot_E) (K : Option ot_Y), ot_C G I J Y Z E K → ot_M G I J Y Z E K → ∃ G' I' J', jw_V Lx xs 30 (mL_law nm) 33 [.ref (1000000 + 400), .ref 1, .ref 64, .int (nI i)] [.int (nI 23)] G I J (some (.int (nI 1))) G' I' J' ∧ jv_n G' ≤ 153 ∧ jv_s G' ≤ 5000 := fun G I J Y Z E K hC hM => by
  obtain ⟨G', I', J', hV, hb⟩ := lw_case23 hi hL hN G I J Y Z E K hC hM
  exact ⟨G', I', J', jw_tableIn dL_law_33 (by decide) (by decide) (off := 1023) rfl (by decide) hV, hb⟩
set_option maxRecDepth 20000 in
theorem lw_sw24 {nm : String} {Lx : Nat} {xs : Nat → Int32} {i : Nat} (hi : i + 6 ≤ Lx) (hL : Lx ≤ 3072) (hN : ot_Nx nm Lx xs i) : ∀ (G : jv_Gr) (I : jv_I) (J : jv_J) (Y Z : ot_Y) (E : ot_E) (K : Option ot_Y), ot_C G I J Y Z E K → ot_M G I J Y Z E K → ∃ G' I' J', jw_V Lx xs 30 (mL_law nm) 33 [.ref (1000000 + 400), .ref 1, .ref 64, .int (nI i)] [.int (nI 24)] G I J (some (.int (nI 1))) G' I' J' ∧ jv_n G' ≤ 153 ∧ jv_s G' ≤ 5000 := fun G I J Y Z E K hC hM => by
  obtain ⟨G', I', J', hV, hb⟩ := lw_case24 hi hL hN G I J Y Z E K hC hM
  exact ⟨G', I', J', jw_tableIn dL_law_33 (by decide) (by decide) (off := 1056) rfl (by decide) hV, hb⟩
set_option maxRecDepth 20000 in
theorem lw_sw25 {nm : String} {Lx : Nat} {xs : Nat → Int32} {i : Nat} (hi : i + 6 ≤ Lx) (hL : Lx ≤ 3072) (hN : ot_Nx nm Lx xs i) : ∀ (G : jv_Gr) (I : jv_I) (J : jv_J) (Y Z : ot_Y) (E : ot_E) (K : Option ot_Y), ot_C G I J Y Z E K → ot_M G I J Y Z E K → ∃ G' I' J', jw_V Lx xs 30 (mL_law nm) 33 [.ref (1000000 + 400), .ref 1, .ref 64, .int (nI i)] [.int (nI 25)] G I J (some (.int (nI 1))) G' I' J' ∧ jv_n G' ≤ 153 ∧ jv_s G' ≤ 5000 := fun G I J Y Z E K hC hM => by
  obtain ⟨G', I', J', hV, hb⟩ := lw_case25 hi hL hN G I J Y Z E K hC hM
  exact ⟨G', I', J', jw_tableIn dL_law_33 (by decide) (by decide) (off := 1079) rfl (by decide) hV, hb⟩
set_option maxRecDepth 20000 in
theorem lw_sw26 {nm : String} {Lx : Nat} {xs : Nat → Int32} {i : Nat} (hi : i + 6 ≤ Lx) (hL : Lx ≤ 3072) (hN : ot_Nx nm Lx xs i) : ∀ (G : jv_Gr) (I : jv_I) (J : jv_J) (Y Z : ot_Y) (E : ot_E) (K : Option ot_Y), ot_C G I J Y Z E K → ot_M G I J Y Z E K → ∃ G' I' J', jw_V Lx xs 30 (mL_law nm) 33 [.ref (1000000 + 400), .ref 1, .ref 64, .int (nI i)] [.int (nI 26)] G I J (some (.int (nI 1))) G' I' J' ∧ jv_n G' ≤ 153 ∧ jv_s G' ≤ 5000 := fun G I J Y Z E K hC hM => by
  obtain ⟨G', I', J', hV, hb⟩ := lw_case26 hi hL hN G I J Y Z E K hC hM
  exact ⟨G', I', J', jw_tableIn dL_law_33 (by decide) (by decide) (off := 1102) rfl (by decide) hV, hb⟩
set_option maxRecDepth 20000 in
theorem lw_sw27 {nm : String} {Lx : Nat} {xs : Nat → Int32} {i : Nat} (hi : i + 6 ≤ Lx) (hL : Lx ≤ 3072) (hN : ot_Nx nm Lx xs i) : ∀ (G : jv_Gr) (I : jv_I) (J : jv_J) (Y Z : ot_Y) (E : ot_E) (K : Option ot_Y), ot_C G I J Y Z E K → ot_M G I J Y Z E K → ∃ G' I' J', jw_V Lx xs 30 (mL_law nm) 33 [.ref (1000000 + 400), .ref 1, .ref 64, .int (nI i)] [.int (nI 27)] G I J (some (.int (nI 1))) G' I' J' ∧ jv_n G' ≤ 153 ∧ jv_s G' ≤ 5000 := fun G I J Y Z E K hC hM => by
  obtain ⟨G', I', J', hV, hb⟩ := lw_case27 hi hL hN G I J Y Z E K hC hM
  exact ⟨G', I', J', jw_tableIn dL_law_33 (by decide) (by decide) (off := 1115) rfl (by decide) hV, hb⟩
set_option maxRecDepth 20000 in
theorem lw_sw28 {nm : String} {Lx : Nat} {xs : Nat → Int32} {i : Nat} (hi : i + 6 ≤ Lx) (hL : Lx ≤ 3072) (hN : ot_Nx nm Lx xs i) : ∀ (G : jv_Gr) (I : jv_I) (J : jv_J) (Y Z : ot_Y) (E : ot_E) (K : Option ot_Y), ot_C G I J Y Z E K → ot_M G I J Y Z E K → ∃ G' I' J', jw_V Lx xs 30 (mL_law nm) 33 [.ref (1000000 + 400), .ref 1, .ref 64, .int (nI i)] [.int (nI 28)] G I J (some (.int (nI 1))) G' I' J' ∧ jv_n G' ≤ 153 ∧ jv_s G' ≤ 5000 := fun G I J Y Z E K hC hM => by
  obtain ⟨G', I', J', hV, hb⟩ := lw_case28 hi hL hN G I J Y Z E K hC hM
  exact ⟨G', I', J', jw_tableIn dL_law_33 (by decide) (by decide) (off := 1128) rfl (by decide) hV, hb⟩
set_option maxRecDepth 20000 in
theorem lw_sw29 {nm : String} {Lx : Nat} {xs : Nat → Int32} {i : Nat} (hi : i + 6 ≤ Lx) (hL : Lx ≤ 3072) (hN : ot_Nx nm Lx xs i) : ∀ (G : jv_Gr) (I : jv_I) (J : jv_J) (Y Z : ot_Y) (E : ot_E) (K : Option ot_Y), ot_C G I J Y Z E K → ot_M G I J Y Z E K → ∃ G' I' J', jw_V Lx xs 30 (mL_law nm) 33 [.ref (1000000 + 400), .ref 1, .ref 64, .int (nI i)] [.int (nI 29)] G I J (some (.int (nI 1))) G' I' J' ∧ jv_n G' ≤ 153 ∧ jv_s G' ≤ 5000 := fun G I J Y Z E K hC hM => by
  obtain ⟨G', I', J', hV, hb⟩ := lw_case29 hi hL hN G I J Y Z E K hC hM
  exact ⟨G', I', J', jw_tableIn dL_law_33 (by decide) (by decide) (off := 1161) rfl (by decide) hV, hb⟩
set_option maxRecDepth 20000 in
theorem lw_sw30 {nm : String} {Lx : Nat} {xs : Nat → Int32} {i : Nat} (hi : i + 6 ≤ Lx) (hL : Lx ≤ 3072) (hN : ot_Nx nm Lx xs i) : ∀ (G : jv_Gr) (I : jv_I) (J : jv_J) (Y Z : ot_Y) (E : ot_E) (K : Option ot_Y), ot_C G I J Y Z E K → ot_M G I J Y Z E K → ∃ G' I' J', jw_V Lx xs 30 (mL_law nm) 33 [.ref (1000000 + 400), .ref 1, .ref 64, .int (nI i)] [.int (nI 30)] G I J (some (.int (nI 1))) G' I' J' ∧ jv_n G' ≤ 153 ∧ jv_s G' ≤ 5000 := fun G I J Y Z E K hC hM => by
  obtain ⟨G', I', J', hV, hb⟩ := lw_case30 hi hL hN G I J Y Z E K hC hM
  exact ⟨G', I', J', jw_tableIn dL_law_33 (by decide) (by decide) (off := 1184) rfl (by decide) hV, hb⟩
set_option maxRecDepth 20000 in
theorem lw_sw31 {nm : String} {Lx : Nat} {xs : Nat → Int32} {i : Nat} (hi : i + 6 ≤ Lx) (hL : Lx ≤ 3072) (hN : ot_Nx nm Lx xs i) : ∀ (G : jv_Gr) (I : jv_I) (J : jv_J) (Y Z : ot_Y) (E : ot_E) (K : Option ot_Y), ot_C G I J Y Z E K → ot_M G I J Y Z E K → ∃ G' I' J', jw_V Lx xs 30 (mL_law nm) 33 [.ref (1000000 + 400), .ref 1, .ref 64, .int (nI i)] [.int (nI 31)] G I J (some (.int (nI 1))) G' I' J' ∧ jv_n G' ≤ 153 ∧ jv_s G' ≤ 5000 := fun G I J Y Z E K hC hM => by
  obtain ⟨G', I', J', hV, hb⟩ := lw_case31 hi hL hN G I J Y Z E K hC hM
  exact ⟨G', I', J', jw_tableIn dL_law_33 (by decide) (by decide) (off := 1207) rfl (by decide) hV, hb⟩
set_option maxRecDepth 20000 in
theorem lw_sw32 {nm : String} {Lx : Nat} {xs : Nat → Int32} {i : Nat} (hi : i + 6 ≤ Lx) (hL : Lx ≤ 3072) (hN : ot_Nx nm Lx xs i) : ∀ (G : jv_Gr) (I : jv_I) (J : jv_J) (Y Z : ot_Y) (E : ot_E) (K : Option ot_Y), ot_C G I J Y Z E K → ot_M G I J Y Z E K → ∃ G' I' J', jw_V Lx xs 30 (mL_law nm) 33 [.ref (1000000 + 400), .ref 1, .ref 64, .int (nI i)] [.int (nI 32)] G I J (some (.int (nI 1))) G' I' J' ∧ jv_n G' ≤ 153 ∧ jv_s G' ≤ 5000 := fun G I J Y Z E K hC hM => by
  obtain ⟨G', I', J', hV, hb⟩ := lw_case32 hi hL hN G I J Y Z E K hC hM
  exact ⟨G', I', J', jw_tableIn dL_law_33 (by decide) (by decide) (off := 1240) rfl (by decide) hV, hb⟩
set_option maxRecDepth 20000 in
theorem lw_sw33 {nm : String} {Lx : Nat} {xs : Nat → Int32} {i : Nat} (hi : i + 6 ≤ Lx) (hL : Lx ≤ 3072) (hN : ot_Nx nm Lx xs i) : ∀ (G : jv_Gr) (I : jv_I) (J : jv_J) (Y Z : ot_Y) (E : ot_E) (K : Option ot_Y), ot_C G I J Y Z E K → ot_M G I J Y Z E K → ∃ G' I' J', jw_V Lx xs 30 (mL_law nm) 33 [.ref (1000000 + 400), .ref 1, .ref 64, .int (nI i)] [.int (nI 33)] G I J (some (.int (nI 1))) G' I' J' ∧ jv_n G' ≤ 153 ∧ jv_s G' ≤ 5000 := fun G I J Y Z E K hC hM => by
  obtain ⟨G', I', J', hV, hb⟩ := lw_case33 hi hL hN G I J Y Z E K hC hM
  exact ⟨G', I', J', jw_tableIn dL_law_33 (by decide) (by decide) (off := 1263) rfl (by decide) hV, hb⟩
set_option maxRecDepth 20000 in
theorem lw_sw34 {nm : String} {Lx : Nat} {xs : Nat → Int32} {i : Nat} (hi : i + 6 ≤ Lx) (hL : Lx ≤ 3072) (hN : ot_Nx nm Lx xs i) : ∀ (G : jv_Gr) (I : jv_I) (J : jv_J) (Y Z : ot_Y) (E : ot_E) (K : Option ot_Y), ot_C G I J Y Z E K → ot_M G I J Y Z E K → ∃ G' I' J', jw_V Lx xs 30 (mL_law nm) 33 [.ref (1000000 + 400), .ref 1, .ref 64, .int (nI i)] [.int (nI 34)] G I J (some (.int (nI 1))) G' I' J' ∧ jv_n G' ≤ 153 ∧ jv_s G' ≤ 5000 := fun G I J Y Z E K hC hM => by
  obtain ⟨G', I', J', hV, hb⟩ := lw_case34 hi hL hN G I J Y Z E K hC hM
  exact ⟨G', I', J', jw_tableIn dL_law_33 (by decide) (by decide) (off := 1286) rfl (by decide) hV, hb⟩
set_option maxRecDepth 20000 in
theorem lw_sw35 {nm : String} {Lx : Nat} {xs : Nat → Int32} {i : Nat} (hi : i + 6 ≤ Lx) (hL : Lx ≤ 3072) (hN : ot_Nx nm Lx xs i) : ∀ (G : jv_Gr) (I : jv_I) (J : jv_J) (Y Z : ot_Y) (E : ot_E) (K : Option ot_Y), ot_C G I J Y Z E K → ot_M G I J Y Z E K → ∃ G' I' J', jw_V Lx xs 30 (mL_law nm) 33 [.ref (1000000 + 400), .ref 1, .ref 64, .int (nI i)] [.int (nI 35)] G I J (some (.int (nI 1))) G' I' J' ∧ jv_n G' ≤ 153 ∧ jv_s G' ≤ 5000 := fun G I J Y Z E K hC hM => by
  obtain ⟨G', I', J', hV, hb⟩ := lw_case35 hi hL hN G I J Y Z E K hC hM
  exact ⟨G', I', J', jw_tableIn dL_law_33 (by decide) (by decide) (off := 1309) rfl (by decide) hV, hb⟩
set_option maxRecDepth 20000 in
theorem lw_sw36 {nm : String} {Lx : Nat} {xs : Nat → Int32} {i : Nat} (hi : i + 6 ≤ Lx) (hL : Lx ≤ 3072) (hN : ot_Nx nm Lx xs i) : ∀ (G : jv_Gr) (I : jv_I) (J : jv_J) (Y Z : ot_Y) (E : ot_E) (K : Option ot_Y), ot_C G I J Y Z E K → ot_M G I J Y Z E K → ∃ G' I' J', jw_V Lx xs 30 (mL_law nm) 33 [.ref (1000000 + 400), .ref 1, .ref 64, .int (nI i)] [.int (nI 36)] G I J (some (.int (nI 1))) G' I' J' ∧ jv_n G' ≤ 153 ∧ jv_s G' ≤ 5000 := fun G I J Y Z E K hC hM => by
  obtain ⟨G', I', J', hV, hb⟩ := lw_case36 hi hL hN G I J Y Z E K hC hM
  exact ⟨G', I', J', jw_tableIn dL_law_33 (by decide) (by decide) (off := 1352) rfl (by decide) hV, hb⟩
set_option maxRecDepth 20000 in
theorem lw_sw37 {nm : String} {Lx : Nat} {xs : Nat → Int32} {i : Nat} (hi : i + 6 ≤ Lx) (hL : Lx ≤ 3072) (hN : ot_Nx nm Lx xs i) : ∀ (G : jv_Gr) (I : jv_I) (J : jv_J) (Y Z : ot_Y) (E : ot_E) (K : Option ot_Y), ot_C G I J Y Z E K → ot_M G I J Y Z E K → ∃ G' I' J', jw_V Lx xs 30 (mL_law nm) 33 [.ref (1000000 + 400), .ref 1, .ref 64, .int (nI i)] [.int (nI 37)] G I J (some (.int (nI 1))) G' I' J' ∧ jv_n G' ≤ 153 ∧ jv_s G' ≤ 5000 := fun G I J Y Z E K hC hM => by
  obtain ⟨G', I', J', hV, hb⟩ := lw_case37 hi hL hN G I J Y Z E K hC hM
  exact ⟨G', I', J', jw_tableIn dL_law_33 (by decide) (by decide) (off := 1375) rfl (by decide) hV, hb⟩
set_option maxRecDepth 20000 in
theorem lw_sw38 {nm : String} {Lx : Nat} {xs : Nat → Int32} {i : Nat} (hi : i + 6 ≤ Lx) (hL : Lx ≤ 3072) (hN : ot_Nx nm Lx xs i) : ∀ (G : jv_Gr) (I : jv_I) (J : jv_J) (Y Z : ot_Y) (E : ot_E) (K : Option ot_Y), ot_C G I J Y Z E K → ot_M G I J Y Z E K → ∃ G' I' J', jw_V Lx xs 30 (mL_law nm) 33 [.ref (1000000 + 400), .ref 1, .ref 64, .int (nI i)] [.int (nI 38)] G I J (some (.int (nI 1))) G' I' J' ∧ jv_n G' ≤ 153 ∧ jv_s G' ≤ 5000 := fun G I J Y Z E K hC hM => by
  obtain ⟨G', I', J', hV, hb⟩ := lw_case38 hi hL hN G I J Y Z E K hC hM
  exact ⟨G', I', J', jw_tableIn dL_law_33 (by decide) (by decide) (off := 1398) rfl (by decide) hV, hb⟩
set_option maxRecDepth 20000 in
theorem lw_sw39 {nm : String} {Lx : Nat} {xs : Nat → Int32} {i : Nat} (hi : i + 6 ≤ Lx) (hL : Lx ≤ 3072) (hN : ot_Nx nm Lx xs i) : ∀ (G : jv_Gr) (I : jv_I) (J : jv_J) (Y Z : ot_Y) (E : ot_E) (K : Option ot_Y), ot_C G I J Y Z E K → ot_M G I J Y Z E K → ∃ G' I' J', jw_V Lx xs 30 (mL_law nm) 33 [.ref (1000000 + 400), .ref 1, .ref 64, .int (nI i)] [.int (nI 39)] G I J (some (.int (nI 1))) G' I' J' ∧ jv_n G' ≤ 153 ∧ jv_s G' ≤ 5000 := fun G I J Y Z E K hC hM => by
  obtain ⟨G', I', J', hV, hb⟩ := lw_case39 hi hL hN G I J Y Z E K hC hM
  exact ⟨G', I', J', jw_tableIn dL_law_33 (by decide) (by decide) (off := 1431) rfl (by decide) hV, hb⟩
set_option maxRecDepth 20000 in
theorem lw_sw40 {nm : String} {Lx : Nat} {xs : Nat → Int32} {i : Nat} (hi : i + 6 ≤ Lx) (hL : Lx ≤ 3072) (hN : ot_Nx nm Lx xs i) : ∀ (G : jv_Gr) (I : jv_I) (J : jv_J) (Y Z : ot_Y) (E : ot_E) (K : Option ot_Y), ot_C G I J Y Z E K → ot_M G I J Y Z E K → ∃ G' I' J', jw_V Lx xs 30 (mL_law nm) 33 [.ref (1000000 + 400), .ref 1, .ref 64, .int (nI i)] [.int (nI 40)] G I J (some (.int (nI 1))) G' I' J' ∧ jv_n G' ≤ 153 ∧ jv_s G' ≤ 5000 := fun G I J Y Z E K hC hM => by
  obtain ⟨G', I', J', hV, hb⟩ := lw_case40 hi hL hN G I J Y Z E K hC hM
  exact ⟨G', I', J', jw_tableIn dL_law_33 (by decide) (by decide) (off := 1464) rfl (by decide) hV, hb⟩
set_option maxRecDepth 20000 in
theorem lw_sw41 {nm : String} {Lx : Nat} {xs : Nat → Int32} {i : Nat} (hi : i + 6 ≤ Lx) (hL : Lx ≤ 3072) (hN : ot_Nx nm Lx xs i) : ∀ (G : jv_Gr) (I : jv_I) (J : jv_J) (Y Z : ot_Y) (E : ot_E) (K : Option ot_Y), ot_C G I J Y Z E K → ot_M G I J Y Z E K → ∃ G' I' J', jw_V Lx xs 30 (mL_law nm) 33 [.ref (1000000 + 400), .ref 1, .ref 64, .int (nI i)] [.int (nI 41)] G I J (some (.int (nI 1))) G' I' J' ∧ jv_n G' ≤ 153 ∧ jv_s G' ≤ 5000 := fun G I J Y Z E K hC hM => by
  obtain ⟨G', I', J', hV, hb⟩ := lw_case41 hi hL hN G I J Y Z E K hC hM
  exact ⟨G', I', J', jw_tableIn dL_law_33 (by decide) (by decide) (off := 1497) rfl (by decide) hV, hb⟩
set_option maxRecDepth 20000 in
theorem lw_sw42 {nm : String} {Lx : Nat} {xs : Nat → Int32} {i : Nat} (hi : i + 6 ≤ Lx) (hL : Lx ≤ 3072) (hN : ot_Nx nm Lx xs i) : ∀ (G : jv_Gr) (I : jv_I) (J : jv_J) (Y Z : ot_Y) (E : ot_E) (K : Option ot_Y), ot_C G I J Y Z E K → ot_M G I J Y Z E K → ∃ G' I' J', jw_V Lx xs 30 (mL_law nm) 33 [.ref (1000000 + 400), .ref 1, .ref 64, .int (nI i)] [.int (nI 42)] G I J (some (.int (nI 1))) G' I' J' ∧ jv_n G' ≤ 153 ∧ jv_s G' ≤ 5000 := fun G I J Y Z E K hC hM => by
  obtain ⟨G', I', J', hV, hb⟩ := lw_case42 hi hL hN G I J Y Z E K hC hM
  exact ⟨G', I', J', jw_tableIn dL_law_33 (by decide) (by decide) (off := 1530) rfl (by decide) hV, hb⟩
set_option maxRecDepth 20000 in
theorem lw_sw43 {nm : String} {Lx : Nat} {xs : Nat → Int32} {i : Nat} (hi : i + 6 ≤ Lx) (hL : Lx ≤ 3072) (hN : ot_Nx nm Lx xs i) : ∀ (G : jv_Gr) (I : jv_I) (J : jv_J) (Y Z : ot_Y) (E : ot_E) (K : Option ot_Y), ot_C G I J Y Z E K → ot_M G I J Y Z E K → ∃ G' I' J', jw_V Lx xs 30 (mL_law nm) 33 [.ref (1000000 + 400), .ref 1, .ref 64, .int (nI i)] [.int (nI 43)] G I J (some (.int (nI 1))) G' I' J' ∧ jv_n G' ≤ 153 ∧ jv_s G' ≤ 5000 := fun G I J Y Z E K hC hM => by
  obtain ⟨G', I', J', hV, hb⟩ := lw_case43 hi hL hN G I J Y Z E K hC hM
  exact ⟨G', I', J', jw_tableIn dL_law_33 (by decide) (by decide) (off := 1553) rfl (by decide) hV, hb⟩
set_option maxRecDepth 20000 in
theorem lw_sw44 {nm : String} {Lx : Nat} {xs : Nat → Int32} {i : Nat} (hi : i + 6 ≤ Lx) (hL : Lx ≤ 3072) (hN : ot_Nx nm Lx xs i) : ∀ (G : jv_Gr) (I : jv_I) (J : jv_J) (Y Z : ot_Y) (E : ot_E) (K : Option ot_Y), ot_C G I J Y Z E K → ot_M G I J Y Z E K → ∃ G' I' J', jw_V Lx xs 30 (mL_law nm) 33 [.ref (1000000 + 400), .ref 1, .ref 64, .int (nI i)] [.int (nI 44)] G I J (some (.int (nI 1))) G' I' J' ∧ jv_n G' ≤ 153 ∧ jv_s G' ≤ 5000 := fun G I J Y Z E K hC hM => by
  obtain ⟨G', I', J', hV, hb⟩ := lw_case44 hi hL hN G I J Y Z E K hC hM
  exact ⟨G', I', J', jw_tableIn dL_law_33 (by decide) (by decide) (off := 1576) rfl (by decide) hV, hb⟩
set_option maxRecDepth 20000 in
theorem lw_sw45 {nm : String} {Lx : Nat} {xs : Nat → Int32} {i : Nat} (hi : i + 6 ≤ Lx) (hL : Lx ≤ 3072) (hN : ot_Nx nm Lx xs i) : ∀ (G : jv_Gr) (I : jv_I) (J : jv_J) (Y Z : ot_Y) (E : ot_E) (K : Option ot_Y), ot_C G I J Y Z E K → ot_M G I J Y Z E K → ∃ G' I' J', jw_V Lx xs 30 (mL_law nm) 33 [.ref (1000000 + 400), .ref 1, .ref 64, .int (nI i)] [.int (nI 45)] G I J (some (.int (nI 1))) G' I' J' ∧ jv_n G' ≤ 153 ∧ jv_s G' ≤ 5000 := fun G I J Y Z E K hC hM => by
  obtain ⟨G', I', J', hV, hb⟩ := lw_case45 hi hL hN G I J Y Z E K hC hM
  exact ⟨G', I', J', jw_tableIn dL_law_33 (by decide) (by decide) (off := 1609) rfl (by decide) hV, hb⟩
set_option maxRecDepth 20000 in
theorem lw_sw46 {nm : String} {Lx : Nat} {xs : Nat → Int32} {i : Nat} (hi : i + 6 ≤ Lx) (hL : Lx ≤ 3072) (hN : ot_Nx nm Lx xs i) : ∀ (G : jv_Gr) (I : jv_I) (J : jv_J) (Y Z : ot_Y) (E : ot_E) (K : Option ot_Y), ot_C G I J Y Z E K → ot_M G I J Y Z E K → ∃ G' I' J', jw_V Lx xs 30 (mL_law nm) 33 [.ref (1000000 + 400), .ref 1, .ref 64, .int (nI i)] [.int (nI 46)] G I J (some (.int (nI 1))) G' I' J' ∧ jv_n G' ≤ 153 ∧ jv_s G' ≤ 5000 := fun G I J Y Z E K hC hM => by
  obtain ⟨G', I', J', hV, hb⟩ := lw_case46 hi hL hN G I J Y Z E K hC hM
  exact ⟨G', I', J', jw_tableIn dL_law_33 (by decide) (by decide) (off := 1632) rfl (by decide) hV, hb⟩
set_option maxRecDepth 20000 in
theorem lw_sw47 {nm : String} {Lx : Nat} {xs : Nat → Int32} {i : Nat} (hi : i + 6 ≤ Lx) (hL : Lx ≤ 3072) (hN : ot_Nx nm Lx xs i) : ∀ (G : jv_Gr) (I : jv_I) (J : jv_J) (Y Z : ot_Y) (E : ot_E) (K : Option ot_Y), ot_C G I J Y Z E K → ot_M G I J Y Z E K → ∃ G' I' J', jw_V Lx xs 30 (mL_law nm) 33 [.ref (1000000 + 400), .ref 1, .ref 64, .int (nI i)] [.int (nI 47)] G I J (some (.int (nI 1))) G' I' J' ∧ jv_n G' ≤ 153 ∧ jv_s G' ≤ 5000 := fun G I J Y Z E K hC hM => by
  obtain ⟨G', I', J', hV, hb⟩ := lw_case47 hi hL hN G I J Y Z E K hC hM
  exact ⟨G', I', J', jw_tableIn dL_law_33 (by decide) (by decide) (off := 1665) rfl (by decide) hV, hb⟩
set_option maxRecDepth 20000 in
theorem lw_sw48 {nm : String} {Lx : Nat} {xs : Nat → Int32} {i : Nat} (hi : i + 6 ≤ Lx) (hL : Lx ≤ 3072) (hN : ot_Nx nm Lx xs i) : ∀ (G : jv_Gr) (I : jv_I) (J : jv_J) (Y Z : ot_Y) (E : ot_E) (K : Option ot_Y), ot_C G I J Y Z E K → ot_M G I J Y Z E K → ∃ G' I' J', jw_V Lx xs 30 (mL_law nm) 33 [.ref (1000000 + 400), .ref 1, .ref 64, .int (nI i)] [.int (nI 48)] G I J (some (.int (nI 1))) G' I' J' ∧ jv_n G' ≤ 153 ∧ jv_s G' ≤ 5000 := fun G I J Y Z E K hC hM => by
  obtain ⟨G', I', J', hV, hb⟩ := lw_case48 hi hL hN G I J Y Z E K hC hM
  exact ⟨G', I', J', jw_tableIn dL_law_33 (by decide) (by decide) (off := 1708) rfl (by decide) hV, hb⟩
set_option maxRecDepth 20000 in
theorem lw_sw49 {nm : String} {Lx : Nat} {xs : Nat → Int32} {i : Nat} (hi : i + 6 ≤ Lx) (hL : Lx ≤ 3072) (hN : ot_Nx nm Lx xs i) : ∀ (G : jv_Gr) (I : jv_I) (J : jv_J) (Y Z : ot_Y) (E : ot_E) (K : Option ot_Y), ot_C G I J Y Z E K → ot_M G I J Y Z E K → ∃ G' I' J', jw_V Lx xs 30 (mL_law nm) 33 [.ref (1000000 + 400), .ref 1, .ref 64, .int (nI i)] [.int (nI 49)] G I J (some (.int (nI 1))) G' I' J' ∧ jv_n G' ≤ 153 ∧ jv_s G' ≤ 5000 := fun G I J Y Z E K hC hM => by
  obtain ⟨G', I', J', hV, hb⟩ := lw_case49 hi hL hN G I J Y Z E K hC hM
  exact ⟨G', I', J', jw_tableIn dL_law_33 (by decide) (by decide) (off := 1741) rfl (by decide) hV, hb⟩
set_option maxRecDepth 20000 in
theorem lw_sw50 {nm : String} {Lx : Nat} {xs : Nat → Int32} {i : Nat} (hi : i + 6 ≤ Lx) (hL : Lx ≤ 3072) (hN : ot_Nx nm Lx xs i) : ∀ (G : jv_Gr) (I : jv_I) (J : jv_J) (Y Z : ot_Y) (E : ot_E) (K : Option ot_Y), ot_C G I J Y Z E K → ot_M G I J Y Z E K → ∃ G' I' J', jw_V Lx xs 30 (mL_law nm) 33 [.ref (1000000 + 400), .ref 1, .ref 64, .int (nI i)] [.int (nI 50)] G I J (some (.int (nI 1))) G' I' J' ∧ jv_n G' ≤ 153 ∧ jv_s G' ≤ 5000 := fun G I J Y Z E K hC hM => by
  obtain ⟨G', I', J', hV, hb⟩ := lw_case50 hi hL hN G I J Y Z E K hC hM
  exact ⟨G', I', J', jw_tableIn dL_law_33 (by decide) (by decide) (off := 1774) rfl (by decide) hV, hb⟩
set_option maxRecDepth 20000 in
theorem lw_sw51 {nm : String} {Lx : Nat} {xs : Nat → Int32} {i : Nat} (hi : i + 6 ≤ Lx) (hL : Lx ≤ 3072) (hN : ot_Nx nm Lx xs i) : ∀ (G : jv_Gr) (I : jv_I) (J : jv_J) (Y Z : ot_Y) (E : ot_E) (K : Option ot_Y), ot_C G I J Y Z E K → ot_M G I J Y Z E K → ∃ G' I' J', jw_V Lx xs 30 (mL_law nm) 33 [.ref (1000000 + 400), .ref 1, .ref 64, .int (nI i)] [.int (nI 51)] G I J (some (.int (nI 1))) G' I' J' ∧ jv_n G' ≤ 153 ∧ jv_s G' ≤ 5000 := fun G I J Y Z E K hC hM => by
  obtain ⟨G', I', J', hV, hb⟩ := lw_case51 hi hL hN G I J Y Z E K hC hM
  exact ⟨G', I', J', jw_tableIn dL_law_33 (by decide) (by decide) (off := 1807) rfl (by decide) hV, hb⟩
set_option maxRecDepth 20000 in
theorem lw_sw52 {nm : String} {Lx : Nat} {xs : Nat → Int32} {i : Nat} (hi : i + 6 ≤ Lx) (hL : Lx ≤ 3072) (hN : ot_Nx nm Lx xs i) : ∀ (G : jv_Gr) (I : jv_I) (J : jv_J) (Y Z : ot_Y) (E : ot_E) (K : Option ot_Y), ot_C G I J Y Z E K → ot_M G I J Y Z E K → ∃ G' I' J', jw_V Lx xs 30 (mL_law nm) 33 [.ref (1000000 + 400), .ref 1, .ref 64, .int (nI i)] [.int (nI 52)] G I J (some (.int (nI 1))) G' I' J' ∧ jv_n G' ≤ 153 ∧ jv_s G' ≤ 5000 := fun G I J Y Z E K hC hM => by
  obtain ⟨G', I', J', hV, hb⟩ := lw_case52 hi hL hN G I J Y Z E K hC hM
  exact ⟨G', I', J', jw_tableIn dL_law_33 (by decide) (by decide) (off := 1820) rfl (by decide) hV, hb⟩
set_option maxRecDepth 20000 in
theorem lw_sw53 {nm : String} {Lx : Nat} {xs : Nat → Int32} {i : Nat} (hi : i + 6 ≤ Lx) (hL : Lx ≤ 3072) (hN : ot_Nx nm Lx xs i) : ∀ (G : jv_Gr) (I : jv_I) (J : jv_J) (Y Z : ot_Y) (E : ot_E) (K : Option ot_Y), ot_C G I J Y Z E K → ot_M G I J Y Z E K → ∃ G' I' J', jw_V Lx xs 30 (mL_law nm) 33 [.ref (1000000 + 400), .ref 1, .ref 64, .int (nI i)] [.int (nI 53)] G I J (some (.int (nI 1))) G' I' J' ∧ jv_n G' ≤ 153 ∧ jv_s G' ≤ 5000 := fun G I J Y Z E K hC hM => by
  obtain ⟨G', I', J', hV, hb⟩ := lw_case53 hi hL hN G I J Y Z E K hC hM
  exact ⟨G', I', J', jw_tableIn dL_law_33 (by decide) (by decide) (off := 1833) rfl (by decide) hV, hb⟩
set_option maxRecDepth 20000 in
theorem lw_sw54 {nm : String} {Lx : Nat} {xs : Nat → Int32} {i : Nat} (hi : i + 6 ≤ Lx) (hL : Lx ≤ 3072) (hN : ot_Nx nm Lx xs i) : ∀ (G : jv_Gr) (I : jv_I) (J : jv_J) (Y Z : ot_Y) (E : ot_E) (K : Option ot_Y), ot_C G I J Y Z E K → ot_M G I J Y Z E K → ∃ G' I' J', jw_V Lx xs 30 (mL_law nm) 33 [.ref (1000000 + 400), .ref 1, .ref 64, .int (nI i)] [.int (nI 54)] G I J (some (.int (nI 1))) G' I' J' ∧ jv_n G' ≤ 153 ∧ jv_s G' ≤ 5000 := fun G I J Y Z E K hC hM => by
  obtain ⟨G', I', J', hV, hb⟩ := lw_case54 hi hL hN G I J Y Z E K hC hM
  exact ⟨G', I', J', jw_tableIn dL_law_33 (by decide) (by decide) (off := 1856) rfl (by decide) hV, hb⟩
set_option maxRecDepth 20000 in
theorem lw_sw55 {nm : String} {Lx : Nat} {xs : Nat → Int32} {i : Nat} (hi : i + 6 ≤ Lx) (hL : Lx ≤ 3072) (hN : ot_Nx nm Lx xs i) : ∀ (G : jv_Gr) (I : jv_I) (J : jv_J) (Y Z : ot_Y) (E : ot_E) (K : Option ot_Y), ot_C G I J Y Z E K → ot_M G I J Y Z E K → ∃ G' I' J', jw_V Lx xs 30 (mL_law nm) 33 [.ref (1000000 + 400), .ref 1, .ref 64, .int (nI i)] [.int (nI 55)] G I J (some (.int (nI 1))) G' I' J' ∧ jv_n G' ≤ 153 ∧ jv_s G' ≤ 5000 := fun G I J Y Z E K hC hM => by
  obtain ⟨G', I', J', hV, hb⟩ := lw_case55 hi hL hN G I J Y Z E K hC hM
  exact ⟨G', I', J', jw_tableIn dL_law_33 (by decide) (by decide) (off := 1879) rfl (by decide) hV, hb⟩
set_option maxRecDepth 20000 in
theorem lw_sw56 {nm : String} {Lx : Nat} {xs : Nat → Int32} {i : Nat} (hi : i + 6 ≤ Lx) (hL : Lx ≤ 3072) (hN : ot_Nx nm Lx xs i) : ∀ (G : jv_Gr) (I : jv_I) (J : jv_J) (Y Z : ot_Y) (E : ot_E) (K : Option ot_Y), ot_C G I J Y Z E K → ot_M G I J Y Z E K → ∃ G' I' J', jw_V Lx xs 30 (mL_law nm) 33 [.ref (1000000 + 400), .ref 1, .ref 64, .int (nI i)] [.int (nI 56)] G I J (some (.int (nI 1))) G' I' J' ∧ jv_n G' ≤ 153 ∧ jv_s G' ≤ 5000 := fun G I J Y Z E K hC hM => by
  obtain ⟨G', I', J', hV, hb⟩ := lw_case56 hi hL hN G I J Y Z E K hC hM
  exact ⟨G', I', J', jw_tableIn dL_law_33 (by decide) (by decide) (off := 1892) rfl (by decide) hV, hb⟩
set_option maxRecDepth 20000 in
theorem lw_sw57 {nm : String} {Lx : Nat} {xs : Nat → Int32} {i : Nat} (hi : i + 6 ≤ Lx) (hL : Lx ≤ 3072) (hN : ot_Nx nm Lx xs i) : ∀ (G : jv_Gr) (I : jv_I) (J : jv_J) (Y Z : ot_Y) (E : ot_E) (K : Option ot_Y), ot_C G I J Y Z E K → ot_M G I J Y Z E K → ∃ G' I' J', jw_V Lx xs 30 (mL_law nm) 33 [.ref (1000000 + 400), .ref 1, .ref 64, .int (nI i)] [.int (nI 57)] G I J (some (.int (nI 1))) G' I' J' ∧ jv_n G' ≤ 153 ∧ jv_s G' ≤ 5000 := fun G I J Y Z E K hC hM => by
  obtain ⟨G', I', J', hV, hb⟩ := lw_case57 hi hL hN G I J Y Z E K hC hM
  exact ⟨G', I', J', jw_tableIn dL_law_33 (by decide) (by decide) (off := 1905) rfl (by decide) hV, hb⟩
set_option maxRecDepth 20000 in
theorem lw_swD {nm : String} {Lx : Nat} {xs : Nat → Int32} {i : Nat} (hi : i + 6 ≤ Lx) (hL : Lx ≤ 3072) (hN : ot_Nx nm Lx xs i) {k : Nat} (h58 : 58 ≤ k) (h64 : k < 64) : ∀ (G : jv_Gr) (I : jv_I) (J : jv_J) (Y Z : ot_Y) (E : ot_E) (K : Option ot_Y), ot_C G I J Y Z E K → ot_M G I J Y Z E K → ∃ G' I' J', jw_V Lx xs 30 (mL_law nm) 33 [.ref (1000000 + 400), .ref 1, .ref 64, .int (nI i)] [.int (nI k)] G I J (some (.int (nI 1))) G' I' J' ∧ jv_n G' ≤ 153 ∧ jv_s G' ≤ 5000 := fun G I J Y Z E K hC hM => by
  obtain ⟨G', I', J', hV, hb⟩ := hN G I J Y Z E K hC hM
  refine ⟨G', I', J', jw_tableOut dL_law_33 (.inr ?_) (tgt := 1961) (by decide) hV, hb⟩
  rw [nI_toInt (by omega)]
  omega
theorem lw_sw {nm : String} {Lx : Nat} {xs : Nat → Int32} {i : Nat} (hi : i + 6 ≤ Lx) (hL : Lx ≤ 3072) (hN : ot_Nx nm Lx xs i) : ∀ (k : Nat), k < 64 → ∀ (G : jv_Gr) (I : jv_I) (J : jv_J) (Y Z : ot_Y) (E : ot_E) (K : Option ot_Y), ot_C G I J Y Z E K → ot_M G I J Y Z E K → ∃ G' I' J', jw_V Lx xs 30 (mL_law nm) 33 [.ref (1000000 + 400), .ref 1, .ref 64, .int (nI i)] [.int (nI k)] G I J (some (.int (nI 1))) G' I' J' ∧ jv_n G' ≤ 153 ∧ jv_s G' ≤ 5000
  | 0, _ => lw_sw0 hi hL hN
  | 1, _ => lw_sw1 hi hL hN
  | 2, _ => lw_sw2 hi hL hN
  | 3, _ => lw_sw3 hi hL hN
  | 4, _ => lw_sw4 hi hL hN
  | 5, _ => lw_sw5 hi hL hN
  | 6, _ => lw_sw6 hi hL hN
  | 7, _ => lw_sw7 hi hL hN
  | 8, _ => lw_sw8 hi hL hN
  | 9, _ => lw_sw9 hi hL hN
  | 10, _ => lw_sw10 hi hL hN
  | 11, _ => lw_sw11 hi hL hN
  | 12, _ => lw_sw12 hi hL hN
  | 13, _ => lw_sw13 hi hL hN
  | 14, _ => lw_sw14 hi hL hN
  | 15, _ => lw_sw15 hi hL hN
  | 16, _ => lw_sw16 hi hL hN
  | 17, _ => lw_sw17 hi hL hN
  | 18, _ => lw_sw18 hi hL hN
  | 19, _ => lw_sw19 hi hL hN
  | 20, _ => lw_sw20 hi hL hN
  | 21, _ => lw_sw21 hi hL hN
  | 22, _ => lw_sw22 hi hL hN
  | 23, _ => lw_sw23 hi hL hN
  | 24, _ => lw_sw24 hi hL hN
  | 25, _ => lw_sw25 hi hL hN
  | 26, _ => lw_sw26 hi hL hN
  | 27, _ => lw_sw27 hi hL hN
  | 28, _ => lw_sw28 hi hL hN
  | 29, _ => lw_sw29 hi hL hN
  | 30, _ => lw_sw30 hi hL hN
  | 31, _ => lw_sw31 hi hL hN
  | 32, _ => lw_sw32 hi hL hN
  | 33, _ => lw_sw33 hi hL hN
  | 34, _ => lw_sw34 hi hL hN
  | 35, _ => lw_sw35 hi hL hN
  | 36, _ => lw_sw36 hi hL hN
  | 37, _ => lw_sw37 hi hL hN
  | 38, _ => lw_sw38 hi hL hN
  | 39, _ => lw_sw39 hi hL hN
  | 40, _ => lw_sw40 hi hL hN
  | 41, _ => lw_sw41 hi hL hN
  | 42, _ => lw_sw42 hi hL hN
  | 43, _ => lw_sw43 hi hL hN
  | 44, _ => lw_sw44 hi hL hN
  | 45, _ => lw_sw45 hi hL hN
  | 46, _ => lw_sw46 hi hL hN
  | 47, _ => lw_sw47 hi hL hN
  | 48, _ => lw_sw48 hi hL hN
  | 49, _ => lw_sw49 hi hL hN
  | 50, _ => lw_sw50 hi hL hN
  | 51, _ => lw_sw51 hi hL hN
  | 52, _ => lw_sw52 hi hL hN
  | 53, _ => lw_sw53 hi hL hN
  | 54, _ => lw_sw54 hi hL hN
  | 55, _ => lw_sw55 hi hL hN
  | 56, _ => lw_sw56 hi hL hN
  | 57, _ => lw_sw57 hi hL hN
  | k + 58, h => lw_swD hi hL hN (by omega) h
set_option maxRecDepth 20000 in
theorem lw_loop {nm : String} {Lx : Nat} {xs : Nat → Int32} (hL : Lx ≤ 3072) : ∀ (m i : Nat), Lx ≤ i + m → i ≤ 3100 → ot_At nm Lx xs i 18 := by
  intro m
  induction m with
  | zero =>
    intro i b1 b2 G I J Y Z E K hC hM
    refine ⟨G, I, J, ?_, by have := hM.n; unfold ot_NM at this; omega, by have := hM.n; unfold ot_NM at this; omega⟩
    refine jw_iload3 dL_law_18 ?_
    refine jw_aload0 dL_law_19 ?_
    refine jw_slen dL_law_20 ?_
    refine jw_bipush dL_law_21 jv_c_bipush_6 ?_
    refine jw_isub dL_law_23 ?_
    refine jw_icmp_gt dL_law_24 (tgt := 1967) (by decide) (fun _ => ?_) (fun q => absurd ((ot_m6 hL (by omega)).mpr (by omega)) q)
    refine jw_iconst dL_law_1967 jv_c_iconst_1 ?_
    exact jw_iret dL_law_1968 rfl (by decide) rfl rfl rfl
  | succ m ih =>
    intro i b1 b2 G I J Y Z E K hC hM
    by_cases hi : i + 6 ≤ Lx
    · have hN : ot_Nx nm Lx xs i := fun G I J Y Z E K hC hM => by
        obtain ⟨G', I', J', hV, hb⟩ := ih (i + 6) (by omega) (by omega) G I J Y Z E K hC hM
        refine ⟨G', I', J', ?_, hb⟩
        refine jw_iinc3 dL_law_1961 (v := nI (i + 6)) (by rw [← nI_add]; rfl) rfl ?_
        refine jw_goto dL_law_1964 (tgt := 18) (by decide) ?_
        exact hV
      obtain ⟨k, hk, ek⟩ := ot_and63 (xs i)
      obtain ⟨G', I', J', hV, hb⟩ := lw_sw hi hL hN k hk G I J Y Z E K hC hM
      refine ⟨G', I', J', ?_, hb⟩
      refine jw_iload3 dL_law_18 ?_
      refine jw_aload0 dL_law_19 ?_
      refine jw_slen dL_law_20 ?_
      refine jw_bipush dL_law_21 jv_c_bipush_6 ?_
      refine jw_isub dL_law_23 ?_
      refine jw_icmp_gt dL_law_24 (tgt := 1967) (by decide) (fun q => absurd ((ot_m6 hL (by omega)).mp q) (by omega)) (fun _ => ?_)
      refine jw_aload0 dL_law_27 ?_
      refine jw_iload3 dL_law_28 ?_
      refine jw_sld dL_law_29 (by omega) (by omega) rfl ?_
      refine jw_bipush dL_law_30 jv_c_bipush_63 ?_
      refine jw_iand dL_law_32 ?_
      rw [ek]
      exact hV
    · refine ⟨G, I, J, ?_, by have := hM.n; unfold ot_NM at this; omega, by have := hM.n; unfold ot_NM at this; omega⟩
      refine jw_iload3 dL_law_18 ?_
      refine jw_aload0 dL_law_19 ?_
      refine jw_slen dL_law_20 ?_
      refine jw_bipush dL_law_21 jv_c_bipush_6 ?_
      refine jw_isub dL_law_23 ?_
      refine jw_icmp_gt dL_law_24 (tgt := 1967) (by decide) (fun _ => ?_) (fun q => absurd ((ot_m6 hL (by omega)).mpr (by omega)) q)
      refine jw_iconst dL_law_1967 jv_c_iconst_1 ?_
      exact jw_iret dL_law_1968 rfl (by decide) rfl rfl rfl
def ot_G0 : jv_Gr := (0, 0, fun _ => (99, 0), fun _ _ => 0)
def ot_I0 : jv_I := fun _ _ => 0
def ot_J0 : jv_J := fun _ _ => 0
theorem ot_gw0 : jv_gw ot_G0 := fun _ _ _ => Nat.le_refl _
/-- the reference, just made -/
theorem ot_M_new {G2 G4 : jv_Gr} {I2 I4 : jv_I} {J4 : jv_J} (hn : jv_n G2 = 63) (hs : jv_s G2 ≤ 1185) (ha : ot_al (jv_nw G2 (5 + 10, 0) 35) G4 64 29 21) (hi : ot_ai (jv_zI I2 64) I4 64 29 true) (hz : jv_s G4 ≤ jv_s (jv_nw G2 (5 + 10, 0) 35) + 829) : ot_M G4 I4 J4 ot_Y0 ot_Z0 ot_E0 none := by
  have hk : jv_k (jv_nw G2 (5 + 10, 0) 35) 64 = (5 + 10, 0) := by
    have q := jv_k_new (G := G2) (k := (5 + 10, 0)) (sl := 35)
    rw [hn] at q
    exact q
  have hr : ∀ k, jv_r (jv_nw G2 (5 + 10, 0) 35) 64 k = 0 := fun k => by
    have q := jv_r_new (G := G2) (k := (5 + 10, 0)) (sl := 35) (j := k)
    rw [hn] at q
    exact q
  have r23 : jv_r G4 64 23 = 0 := (ha.2.2.2.2.2.1 23 ot_mfld_23).trans (hr 23)
  have r24 : jv_r G4 64 24 = 0 := (ha.2.2.2.2.2.1 24 ot_mfld_24).trans (hr 24)
  have hsn : jv_s (jv_nw G2 (5 + 10, 0) 35) = jv_s G2 + 35 := rfl
  have i64 : ∀ k, k ≠ 22 → I4 64 k = nI 0 := fun k hk2 => by
    rw [hi.2.1 k hk2]
    unfold jv_zI
    rw [if_pos rfl]
    rfl
  refine ⟨ot_MG_al ha hk, ⟨⟨i64 9 (by decide), i64 13 (by decide), i64 17 (by decide), hi.2.2.1⟩, fun c hc => absurd hc (Nat.not_lt_zero _), fun c hc => absurd hc (Nat.not_lt_zero _), fun c hc => absurd hc (Nat.not_lt_zero _)⟩, ot_YW0, ⟨fun s hs2 => ⟨hi.2.2.2.1 (by decide) s, fun z => absurd z (show ¬ (0 : Nat) = 1 by decide), fun z => absurd z (show ¬ (0 : Nat) = 2 by decide)⟩, ⟨i64 7 (by decide), fun i hi2 => absurd hi2 (Nat.not_lt_zero _)⟩, fun j _ => hi.2.2.2.2 (by decide) (j + 2)⟩, ot_ZW0, r23, .inl r24, ?_⟩
  unfold ot_NM
  have := ha.1
  omega
set_option maxRecDepth 20000 in
theorem lw_body {nm : String} {Lx : Nat} {xs : Nat → Int32} (hL : Lx ≤ 3072) : ∃ G' I' J', jw_V Lx xs 30 (mL_law nm) 0 [.ref (1000000 + 400), .null, .null, .null] [] ot_G0 ot_I0 ot_J0 (some (.int (nI 1))) G' I' J' ∧ jv_n G' ≤ 153 ∧ jv_s G' ≤ 5000 := by
  obtain ⟨G2, I2, J2, c1, hC, hn2, hs2⟩ := oc_init (G0 := jv_nw ot_G0 (4 + 10, 0) 8) (I0 := jv_zI ot_I0 (jv_n ot_G0 + 1)) (J0 := ot_J0) rfl jv_k_new (Nat.le_refl _)
  obtain ⟨G4, I4, J4, c2, ha, hi, hj, hz⟩ := om_init (G := jv_nw G2 (5 + 10, 0) 35) (I := jv_zI I2 (jv_n G2 + 1)) (J := J2) (m := jv_n G2 + 1) (by omega) (by omega) rfl jv_k_new
  have e64 : jv_n G2 + 1 = 64 := by omega
  have hn4 : jv_n G4 = 93 := by rw [ha.1]; omega
  have hM : ot_M G4 I4 J4 ot_Y0 ot_Z0 ot_E0 none := by
    rw [e64] at ha hi
    exact ot_M_new hn2 hs2 ha hi hz
  have hC4 : ot_C G4 I4 J4 ot_Y0 ot_Z0 ot_E0 none := ot_C_lo hC (fun q hq => ⟨by rw [hi.1 q (by omega), ot_zI_ne _ (by omega)], hj q (by omega)⟩) (fun q hq => ⟨by rw [ha.2.1 q (by omega), jv_k_old (by omega)], fun i => by rw [ha.2.2.1 q (by omega), jv_r_old (by omega)]⟩)
  obtain ⟨G', I', J', hV, hb⟩ := lw_loop (nm := nm) (xs := xs) hL Lx 0 (by omega) (by omega) G4 I4 J4 _ _ _ _ hC4 hM
  refine ⟨G', I', J', ?_, hb⟩
  have owL : ∀ n : Nat, 1 ≤ n → jv_ow n [.ref (1000000 + 400), .ref 1, .null, .null] := fun n hn => ot_ow_cons (fun r e => by cases e; exact .inr (by decide)) (ot_ow_r hn (ot_ow_n (ot_ow_n ot_ow_nil)))
  have owL0 : ∀ n : Nat, jv_ow n [.ref (1000000 + 400), .null, .null, .null] := fun n => ot_ow_cons (fun r e => by cases e; exact .inr (by decide)) (ot_ow_n (ot_ow_n (ot_ow_n ot_ow_nil)))
  refine jw_new dL_law_0 clX4 klL_7 (by decide) (owL0 _) ot_ow_nil ?_
  refine jw_dup dL_law_3 rfl ?_
  refine jw_callI (a := jv_n ot_G0 + 1) (As := []) (rest := [.ref (jv_n ot_G0 + 1)]) dL_law_4 okX4_init rfl rfl inX4_init mlL_9 (by decide) c1 (by decide) rfl rfl (Nat.le_of_ble_eq_true rfl) (.inr ⟨owL0 _, ot_ow1 (Nat.le_refl _), by rw [hn2]; decide⟩) ?_
  refine jw_astore1 dL_law_7 rfl ?_
  refine jw_new dL_law_8 clX5 klL_10 (by omega) (owL _ (by omega)) ot_ow_nil ?_
  refine jw_dup dL_law_11 rfl ?_
  refine jw_callI (a := jv_n G2 + 1) (As := []) (rest := [.ref (jv_n G2 + 1)]) dL_law_12 okX5_init rfl rfl inX5_init mlL_12 (by omega) c2 (by decide) rfl rfl (Nat.le_of_ble_eq_true rfl) (.inr ⟨owL _ (by show 1 ≤ jv_n G2 + 1; omega), ot_ow1 (Nat.le_refl _), by rw [hn4]; decide⟩) ?_
  rw [e64]
  refine jw_astore2 dL_law_15 rfl ?_
  refine jw_iconst dL_law_16 jv_c_iconst_0 ?_
  refine jw_istore3 dL_law_17 rfl ?_
  exact hV
