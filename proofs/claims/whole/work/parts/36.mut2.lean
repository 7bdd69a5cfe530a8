/-! ===== the component's Yard: turned about, added to, taken over ===== -/
theorem nI_mod (n : Nat) : nI (n % 4294967296) = nI n := by
  apply Int32.toBitVec_inj.mp
  show BitVec.ofNat 32 (n % 4294967296) = BitVec.ofNat 32 n
  apply BitVec.eq_of_toNat_eq
  simp
def ot_next (s : Nat) : Nat := (s * 1103515245 + 12345) % 4294967296
theorem ot_nextI (s : Nat) : nI s * nI 1103515245 + nI 12345 = nI (ot_next s) := by
  unfold ot_next
  rw [nI_mod, pk_mul, nI_add]
def ot_seed (Y : ot_Y) (s : Nat) : ot_Y := ot_put Y 10 (ot_set (Y 10) 3 s)
def ot_addChild (Y : ot_Y) (s t : Nat) : ot_Y := fun j i => if j = 10 ∧ i = 0 then Y 10 0 + 1 else if j = 0 ∧ i = Y 10 0 then s else if j = 1 ∧ i = Y 10 0 then t else if j = 2 ∧ i = Y 10 0 then Y 10 0 else Y j i
def ot_addCount (Y : ot_Y) (k n a : Nat) : ot_Y := fun j i => if j = 10 ∧ i = 1 then Y 10 1 + 1 else if j = 3 ∧ i = Y 10 1 then k else if j = 4 ∧ i = Y 10 1 then n else if j = 5 ∧ i = Y 10 1 then a else Y j i
def ot_addWish (Y : ot_Y) (a b g w : Nat) : ot_Y := fun j i => if j = 10 ∧ i = 2 then Y 10 2 + 1 else if j = 6 ∧ i = Y 10 2 then a else if j = 7 ∧ i = Y 10 2 then b else if j = 8 ∧ i = Y 10 2 then g else if j = 9 ∧ i = Y 10 2 then w else Y j i
theorem ot_YW_addChild {Y : ot_Y} (hW : ot_YW Y) {s t : Nat} (h14 : Y 10 0 < 14) (hs : 1 ≤ s ∧ s ≤ 99) (ht : t ≤ 9) : ot_YW (ot_addChild Y s t) := by
  obtain ⟨⟨a1, a2, a3⟩, b, c, e, f⟩ := hW
  have n1 : ot_addChild Y s t 10 0 = Y 10 0 + 1 := by simp [ot_addChild]
  have n2 : ot_addChild Y s t 10 1 = Y 10 1 := by simp [ot_addChild]
  have n3 : ot_addChild Y s t 10 2 = Y 10 2 := by simp [ot_addChild]
  have hp : ∀ i, ot_addChild Y s t 2 i = if i = Y 10 0 then Y 10 0 else Y 2 i := fun i => by simp [ot_addChild]
  refine ⟨⟨by omega, by omega, by omega⟩, fun i hi => ?_, fun i j hi hj q => ?_, fun k hk => ?_, fun i hi => ?_⟩
  · rw [n1] at hi ⊢
    rw [hp]
    by_cases h : i = Y 10 0
    · subst h
      simp [ot_addChild]
      omega
    · have := b i (by omega)
      simp [ot_addChild, h]
      omega
  · rw [n1] at hi hj
    rw [hp, hp] at q
    by_cases h : i = Y 10 0 <;> by_cases h2 : j = Y 10 0
    · omega
    · rw [if_pos h, if_neg h2] at q
      have := b j (by omega)
      omega
    · rw [if_neg h, if_pos h2] at q
      have := b i (by omega)
      omega
    · rw [if_neg h, if_neg h2] at q
      exact c i j (by omega) (by omega) q
  · rw [n2] at hk
    have := e k hk
    simpa [ot_addChild] using this
  · rw [n3] at hi
    have := f i hi
    rw [n1]
    simp [ot_addChild]
    omega
theorem ot_YW_addCount {Y : ot_Y} (hW : ot_YW Y) {k n a : Nat} (h6 : Y 10 1 < 6) (hk : k ≤ 5) (hn : 2 ≤ n ∧ n ≤ 5) (ha : a ≤ 13) : ot_YW (ot_addCount Y k n a) := by
  obtain ⟨⟨a1, a2, a3⟩, b, c, e, f⟩ := hW
  have n1 : ot_addCount Y k n a 10 0 = Y 10 0 := by simp [ot_addCount]
  have n2 : ot_addCount Y k n a 10 1 = Y 10 1 + 1 := by simp [ot_addCount]
  have n3 : ot_addCount Y k n a 10 2 = Y 10 2 := by simp [ot_addCount]
  refine ⟨⟨by omega, by omega, by omega⟩, fun i hi => ?_, fun i j hi hj q => ?_, fun i hi => ?_, fun i hi => ?_⟩
  · rw [n1] at hi ⊢
    have := b i hi
    simpa [ot_addCount] using this
  · rw [n1] at hi hj
    exact c i j hi hj (by simpa [ot_addCount] using q)
  · rw [n2] at hi
    by_cases h : i = Y 10 1
    · subst h
      simp [ot_addCount]
      omega
    · have := e i (by omega)
      simp [ot_addCount, h]
      omega
  · rw [n3] at hi
    have := f i hi
    rw [n1]
    simpa [ot_addCount] using this
theorem ot_YW_addWish {Y : ot_Y} (hW : ot_YW Y) {x z g w : Nat} (h20 : Y 10 2 < 20) (hx : x < Y 10 0) (hz : z < Y 10 0) (hne : x ≠ z) (hg : g ≤ 1) (hw : 1 ≤ w ∧ w ≤ 99) : ot_YW (ot_addWish Y x z g w) := by
  obtain ⟨⟨a1, a2, a3⟩, b, c, e, f⟩ := hW
  have n1 : ot_addWish Y x z g w 10 0 = Y 10 0 := by simp [ot_addWish]
  have n2 : ot_addWish Y x z g w 10 1 = Y 10 1 := by simp [ot_addWish]
  have n3 : ot_addWish Y x z g w 10 2 = Y 10 2 + 1 := by simp [ot_addWish]
  refine ⟨⟨by omega, by omega, by omega⟩, fun i hi => ?_, fun i j hi hj q => ?_, fun i hi => ?_, fun i hi => ?_⟩
  · rw [n1] at hi ⊢
    have := b i hi
    simpa [ot_addWish] using this
  · rw [n1] at hi hj
    exact c i j hi hj (by simpa [ot_addWish] using q)
  · rw [n2] at hi
    have := e i hi
    simpa [ot_addWish] using this
  · rw [n3] at hi
    rw [n1]
    by_cases h : i = Y 10 2
    · subst h
      simp [ot_addWish]
      omega
    · have := f i (by omega)
      simp [ot_addWish, h]
      omega
theorem ot_YW_seed {Y : ot_Y} (hW : ot_YW Y) (s : Nat) : ot_YW (ot_seed Y s) := hW
set_option maxRecDepth 20000 in
theorem ot_addChild0 {G : jv_Gr} {I : jv_I} {J : jv_J} {y : Nat} {Y : ot_Y} (hG : ot_YG G y) (hR : ot_YR I y Y) (hW : ot_YW Y) {s t : Nat} (h14 : Y 10 0 < 14) : jv_C 1 mX3_addChild [.ref y, .int (nI s), .int (nI t)] G I J (some (.int (nI (Y 10 0)))) G (jv_up (jv_up (jv_up (jv_up (jv_up I (y + 1) (Y 10 0) (nI s)) (y + 2) (Y 10 0) (nI t)) (y + 3) (Y 10 0) (nI (Y 10 0))) (y + 4) (Y 10 0) (nI (Y 10 0))) y 0 (nI (Y 10 0 + 1))) J := by
  refine jv_enter okX3_addChild (L := [.ref y, .int (nI s), .int (nI t), .null]) rfl (Nat.le_of_ble_eq_true rfl) ?_
  have bn := yw_n hW
  have bc := yw_c hW
  have bw := yw_w hW
  refine jv_aload0 dX3_addChild_0 ?_
  refine jv_getI dX3_addChild_1 flX3_9 rfl (yk hG) (yi_children hR) ?_
  refine jv_istore3 dX3_addChild_4 rfl ?_
  refine jv_aload0 dX3_addChild_5 ?_
  refine jv_getR dX3_addChild_6 flX3_15 rfl (yk hG) (yr_strong hG) ?_
  refine jv_iload3 dX3_addChild_9 ?_
  refine jv_iload1 dX3_addChild_10 ?_
  refine jv_iastN dX3_addChild_11 (yk_strong hG) (by omega) (by decide) ?_
  refine jv_aload0 dX3_addChild_12 ?_
  refine jv_getR dX3_addChild_13 flX3_19 rfl (yk hG) (yr_step hG) ?_
  refine jv_iload3 dX3_addChild_16 ?_
  refine jv_iload2 dX3_addChild_17 ?_
  refine jv_iastN dX3_addChild_18 (yk_step hG) (by omega) (by decide) ?_
  refine jv_aload0 dX3_addChild_19 ?_
  refine jv_getR dX3_addChild_20 flX3_22 rfl (yk hG) (yr_where hG) ?_
  refine jv_iload3 dX3_addChild_23 ?_
  refine jv_iload3 dX3_addChild_24 ?_
  refine jv_iastN dX3_addChild_25 (yk_where hG) (by omega) (by decide) ?_
  refine jv_aload0 dX3_addChild_26 ?_
  refine jv_getR dX3_addChild_27 flX3_25 rfl (yk hG) (yr_who hG) ?_
  refine jv_iload3 dX3_addChild_30 ?_
  refine jv_iload3 dX3_addChild_31 ?_
  refine jv_iastN dX3_addChild_32 (yk_who hG) (by omega) (by decide) ?_
  refine jv_aload0 dX3_addChild_33 ?_
  refine jv_dup dX3_addChild_34 rfl ?_
  refine jv_getI dX3_addChild_35 flX3_9 rfl (yk hG) (show jv_up (jv_up (jv_up (jv_up I (y + 1) (Y 10 0) (nI s)) (y + 2) (Y 10 0) (nI t)) (y + 3) (Y 10 0) (nI (Y 10 0))) (y + 4) (Y 10 0) (nI (Y 10 0)) y 0 = nI (Y 10 0) by rw [jv_up_ne _ _ _ (by omega), jv_up_ne _ _ _ (by omega), jv_up_ne _ _ _ (by omega), jv_up_ne _ _ _ (by omega)]; exact yi_children hR) ?_
  refine jv_iconst dX3_addChild_38 jv_c_iconst_1 ?_
  refine jv_iaddN dX3_addChild_39 ?_
  refine jv_putI dX3_addChild_40 flX3_9 rfl (yk hG) rfl rfl ?_
  refine jv_iload3 dX3_addChild_43 ?_
  exact jv_iret dX3_addChild_44 rfl rfl rfl rfl rfl
theorem ot_addChildM {G : jv_Gr} {I : jv_I} {J : jv_J} {y : Nat} {Y : ot_Y} (hG : ot_YG G y) (hR : ot_YR I y Y) (hW : ot_YW Y) {s t : Nat} (h14 : Y 10 0 < 14) : ∃ I2, jv_C 1 mX3_addChild [.ref y, .int (nI s), .int (nI t)] G I J (some (.int (nI (Y 10 0)))) G I2 J ∧ ot_YR I2 y (ot_addChild Y s t) ∧ ot_fr I I2 y (y + 11) := by
  have bn := yw_n hW
  have bc := yw_c hW
  have bw := yw_w hW
  refine ⟨_, ot_addChild0 hG hR hW h14, ?_, fun q hq => ?_⟩
  · obtain ⟨⟨r1, r2, r3, r4⟩, g1, g2, g3⟩ := hR
    have n1 : ot_addChild Y s t 10 0 = Y 10 0 + 1 := by simp [ot_addChild]
    refine ⟨⟨?_, ?_, ?_, ?_⟩, fun c hc => ?_, fun k hk => ?_, fun i hi => ?_⟩
    · simp [jv_up, ot_addChild]
    · simpa [jv_up, ot_addChild] using r2
    · simpa [jv_up, ot_addChild] using r3
    · simpa [jv_up, ot_addChild] using r4
    · rw [n1] at hc
      by_cases h : c = Y 10 0
      · subst h
        simp [jv_up, ot_addChild]
      · have := g1 c (by omega)
        have hp := (yw_child hW (show c < Y 10 0 by omega)).2.2.2
        simpa [jv_up, ot_addChild, h, show ¬ Y 2 c = Y 10 0 by omega] using this
    · have := g2 k (by simpa [ot_addChild] using hk)
      simpa [jv_up, ot_addChild] using this
    · have := g3 i (by simpa [ot_addChild] using hi)
      simpa [jv_up, ot_addChild] using this
  · repeat rw [jv_up_ne _ _ _ (show q ≠ _ by omega)]
set_option maxRecDepth 20000 in
theorem ot_addCount0 {G : jv_Gr} {I : jv_I} {J : jv_J} {y : Nat} {Y : ot_Y} (hG : ot_YG G y) (hR : ot_YR I y Y) (hW : ot_YW Y) {k nn a : Nat} (h6 : Y 10 1 < 6) : jv_C 1 mX3_addCount [.ref y, .int (nI k), .int (nI nn), .int (nI a)] G I J (some (.int (nI (Y 10 1)))) G (jv_up (jv_up (jv_up (jv_up I (y + 5) (Y 10 1) (nI k)) (y + 6) (Y 10 1) (nI nn)) (y + 7) (Y 10 1) (nI a)) y 5 (nI (Y 10 1 + 1))) J := by
  refine jv_enter okX3_addCount (L := [.ref y, .int (nI k), .int (nI nn), .int (nI a), .null]) rfl (Nat.le_of_ble_eq_true rfl) ?_
  have bn := yw_n hW
  have bc := yw_c hW
  have bw := yw_w hW
  refine jv_aload0 dX3_addCount_0 ?_
  refine jv_getI dX3_addCount_1 flX3_28 rfl (yk hG) (yi_counts hR) ?_
  refine jv_istore4 dX3_addCount_4 rfl ?_
  refine jv_aload0 dX3_addCount_6 ?_
  refine jv_getR dX3_addCount_7 flX3_31 rfl (yk hG) (yr_kinds hG) ?_
  refine jv_iload4 dX3_addCount_10 ?_
  refine jv_iload1 dX3_addCount_12 ?_
  refine jv_iastN dX3_addCount_13 (yk_kinds hG) (by omega) (by decide) ?_
  refine jv_aload0 dX3_addCount_14 ?_
  refine jv_getR dX3_addCount_15 flX3_34 rfl (yk hG) (yr_teams hG) ?_
  refine jv_iload4 dX3_addCount_18 ?_
  refine jv_iload2 dX3_addCount_20 ?_
  refine jv_iastN dX3_addCount_21 (yk_teams hG) (by omega) (by decide) ?_
  refine jv_aload0 dX3_addCount_22 ?_
  refine jv_getR dX3_addCount_23 flX3_37 rfl (yk hG) (yr_slips hG) ?_
  refine jv_iload4 dX3_addCount_26 ?_
  refine jv_iload3 dX3_addCount_28 ?_
  refine jv_iastN dX3_addCount_29 (yk_slips hG) (by omega) (by decide) ?_
  refine jv_aload0 dX3_addCount_30 ?_
  refine jv_dup dX3_addCount_31 rfl ?_
  refine jv_getI dX3_addCount_32 flX3_28 rfl (yk hG) (show jv_up (jv_up (jv_up I (y + 5) (Y 10 1) (nI k)) (y + 6) (Y 10 1) (nI nn)) (y + 7) (Y 10 1) (nI a) y 5 = nI (Y 10 1) by rw [jv_up_ne _ _ _ (by omega), jv_up_ne _ _ _ (by omega), jv_up_ne _ _ _ (by omega)]; exact yi_counts hR) ?_
  refine jv_iconst dX3_addCount_35 jv_c_iconst_1 ?_
  refine jv_iaddN dX3_addCount_36 ?_
  refine jv_putI dX3_addCount_37 flX3_28 rfl (yk hG) rfl rfl ?_
  refine jv_iload4 dX3_addCount_40 ?_
  exact jv_iret dX3_addCount_42 rfl rfl rfl rfl rfl
theorem ot_addCountM {G : jv_Gr} {I : jv_I} {J : jv_J} {y : Nat} {Y : ot_Y} (hG : ot_YG G y) (hR : ot_YR I y Y) (hW : ot_YW Y) {k nn a : Nat} (h6 : Y 10 1 < 6) : ∃ I2, jv_C 1 mX3_addCount [.ref y, .int (nI k), .int (nI nn), .int (nI a)] G I J (some (.int (nI (Y 10 1)))) G I2 J ∧ ot_YR I2 y (ot_addCount Y k nn a) ∧ ot_fr I I2 y (y + 11) := by
  have bn := yw_n hW
  have bc := yw_c hW
  have bw := yw_w hW
  refine ⟨_, ot_addCount0 hG hR hW h6, ?_, fun q hq => ?_⟩
  · obtain ⟨⟨r1, r2, r3, r4⟩, g1, g2, g3⟩ := hR
    have n1 : ot_addCount Y k nn a 10 1 = Y 10 1 + 1 := by simp [ot_addCount]
    refine ⟨⟨?_, ?_, ?_, ?_⟩, fun c hc => ?_, fun c hc => ?_, fun i hi => ?_⟩
    · simpa [jv_up, ot_addCount] using r1
    · simp [jv_up, ot_addCount]
    · simpa [jv_up, ot_addCount] using r3
    · simpa [jv_up, ot_addCount] using r4
    · have := g1 c (by simpa [ot_addCount] using hc)
      simpa [jv_up, ot_addCount] using this
    · rw [n1] at hc
      by_cases h : c = Y 10 1
      · subst h
        simp [jv_up, ot_addCount]
      · have := g2 c (by omega)
        simpa [jv_up, ot_addCount, h] using this
    · have := g3 i (by simpa [ot_addCount] using hi)
      simpa [jv_up, ot_addCount] using this
  · repeat rw [jv_up_ne _ _ _ (show q ≠ _ by omega)]
theorem ot_b_cases (P : Prop) [Decidable P] : (P ∧ jv_b P = nI 1) ∨ (¬ P ∧ jv_b P = nI 0) := by
  by_cases h : P
  · exact Or.inl ⟨h, jv_b_t h⟩
  · exact Or.inr ⟨h, jv_b_f h⟩
set_option maxRecDepth 20000 in
theorem ot_addWish0 {G : jv_Gr} {I : jv_I} {J : jv_J} {y : Nat} {Y : ot_Y} (hG : ot_YG G y) (hR : ot_YR I y Y) (hW : ot_YW Y) {a b w : Nat} (g : Prop) [Decidable g] (h20 : Y 10 2 < 20) : jv_C 1 mX3_addWish [.ref y, .int (nI a), .int (nI b), .int (jv_b g), .int (nI w)] G I J (some (.int (nI (Y 10 2 + 1)))) G (jv_up (jv_up (jv_up (jv_up (jv_up (I) (y + 8) (Y 10 2) (nI a)) (y + 9) (Y 10 2) (nI b)) (y + 10) (Y 10 2) (jv_b g)) (y + 11) (Y 10 2) (nI w)) y 9 (nI (Y 10 2 + 1))) J := by
  refine jv_enter okX3_addWish (L := [.ref y, .int (nI a), .int (nI b), .int (jv_b g), .int (nI w)]) rfl (Nat.le_of_ble_eq_true rfl) ?_
  have bn := yw_n hW
  have bc := yw_c hW
  have bw := yw_w hW
  refine jv_aload0 dX3_addWish_0 ?_
  refine jv_getR dX3_addWish_1 flX3_43 rfl (yk hG) (yr_firsts hG) ?_
  refine jv_aload0 dX3_addWish_4 ?_
  refine jv_getI dX3_addWish_5 flX3_40 rfl (yk hG) (show (I) y 9 = nI (Y 10 2) by exact yi_wishes hR) ?_
  refine jv_iload1 dX3_addWish_8 ?_
  refine jv_iastN dX3_addWish_9 (yk_firsts hG) (by omega) (by decide) ?_
  refine jv_aload0 dX3_addWish_10 ?_
  refine jv_getR dX3_addWish_11 flX3_46 rfl (yk hG) (yr_seconds hG) ?_
  refine jv_aload0 dX3_addWish_14 ?_
  refine jv_getI dX3_addWish_15 flX3_40 rfl (yk hG) (show (jv_up (I) (y + 8) (Y 10 2) (nI a)) y 9 = nI (Y 10 2) by rw [jv_up_ne _ _ _ (by omega)]; exact yi_wishes hR) ?_
  refine jv_iload2 dX3_addWish_18 ?_
  refine jv_iastN dX3_addWish_19 (yk_seconds hG) (by omega) (by decide) ?_
  refine jv_aload0 dX3_addWish_20 ?_
  refine jv_getR dX3_addWish_21 flX3_49 rfl (yk hG) (yr_together hG) ?_
  refine jv_aload0 dX3_addWish_24 ?_
  refine jv_getI dX3_addWish_25 flX3_40 rfl (yk hG) (show (jv_up (jv_up (I) (y + 8) (Y 10 2) (nI a)) (y + 9) (Y 10 2) (nI b)) y 9 = nI (Y 10 2) by rw [jv_up_ne _ _ _ (by omega), jv_up_ne _ _ _ (by omega)]; exact yi_wishes hR) ?_
  refine jv_iload3 dX3_addWish_28 ?_
  refine jv_if_eqB dX3_addWish_29 (tgt := 36) (by decide) (fun h29 => ?_) (fun h29 => ?_)
  · refine jv_iconst dX3_addWish_36 jv_c_iconst_0 ?_
    rw [show nI 0 = jv_b g from ot_b0 h29]
    refine jv_iastN dX3_addWish_37 (yk_together hG) (by omega) (by decide) ?_
    refine jv_aload0 dX3_addWish_38 ?_
    refine jv_getR dX3_addWish_39 flX3_52 rfl (yk hG) (yr_worths hG) ?_
    refine jv_aload0 dX3_addWish_42 ?_
    refine jv_getI dX3_addWish_43 flX3_40 rfl (yk hG) (show (jv_up (jv_up (jv_up (I) (y + 8) (Y 10 2) (nI a)) (y + 9) (Y 10 2) (nI b)) (y + 10) (Y 10 2) (jv_b g)) y 9 = nI (Y 10 2) by rw [jv_up_ne _ _ _ (by omega), jv_up_ne _ _ _ (by omega), jv_up_ne _ _ _ (by omega)]; exact yi_wishes hR) ?_
    refine jv_iload4 dX3_addWish_46 ?_
    refine jv_iastN dX3_addWish_48 (yk_worths hG) (by omega) (by decide) ?_
    refine jv_aload0 dX3_addWish_49 ?_
    refine jv_dup dX3_addWish_50 rfl ?_
    refine jv_getI dX3_addWish_51 flX3_40 rfl (yk hG) (show (jv_up (jv_up (jv_up (jv_up (I) (y + 8) (Y 10 2) (nI a)) (y + 9) (Y 10 2) (nI b)) (y + 10) (Y 10 2) (jv_b g)) (y + 11) (Y 10 2) (nI w)) y 9 = nI (Y 10 2) by rw [jv_up_ne _ _ _ (by omega), jv_up_ne _ _ _ (by omega), jv_up_ne _ _ _ (by omega), jv_up_ne _ _ _ (by omega)]; exact yi_wishes hR) ?_
    refine jv_iconst dX3_addWish_54 jv_c_iconst_1 ?_
    refine jv_iaddN dX3_addWish_55 ?_
    refine jv_putI dX3_addWish_56 flX3_40 rfl (yk hG) rfl rfl ?_
    refine jv_aload0 dX3_addWish_59 ?_
    refine jv_getI dX3_addWish_60 flX3_40 rfl (yk hG) (show jv_up (jv_up (jv_up (jv_up (jv_up (I) (y + 8) (Y 10 2) (nI a)) (y + 9) (Y 10 2) (nI b)) (y + 10) (Y 10 2) (jv_b g)) (y + 11) (Y 10 2) (nI w)) y 9 (nI (Y 10 2 + 1)) y 9 = nI (Y 10 2 + 1) from jv_up_at _ _ _ _) ?_
    exact jv_iret dX3_addWish_63 rfl rfl rfl rfl rfl
  · refine jv_iconst dX3_addWish_32 jv_c_iconst_1 ?_
    refine jv_goto dX3_addWish_33 (tgt := 37) (by decide) ?_
    rw [show nI 1 = jv_b g from ot_b1 h29]
    refine jv_iastN dX3_addWish_37 (yk_together hG) (by omega) (by decide) ?_
    refine jv_aload0 dX3_addWish_38 ?_
    refine jv_getR dX3_addWish_39 flX3_52 rfl (yk hG) (yr_worths hG) ?_
    refine jv_aload0 dX3_addWish_42 ?_
    refine jv_getI dX3_addWish_43 flX3_40 rfl (yk hG) (show (jv_up (jv_up (jv_up (I) (y + 8) (Y 10 2) (nI a)) (y + 9) (Y 10 2) (nI b)) (y + 10) (Y 10 2) (jv_b g)) y 9 = nI (Y 10 2) by rw [jv_up_ne _ _ _ (by omega), jv_up_ne _ _ _ (by omega), jv_up_ne _ _ _ (by omega)]; exact yi_wishes hR) ?_
    refine jv_iload4 dX3_addWish_46 ?_
    refine jv_iastN dX3_addWish_48 (yk_worths hG) (by omega) (by decide) ?_
    refine jv_aload0 dX3_addWish_49 ?_
    refine jv_dup dX3_addWish_50 rfl ?_
    refine jv_getI dX3_addWish_51 flX3_40 rfl (yk hG) (show (jv_up (jv_up (jv_up (jv_up (I) (y + 8) (Y 10 2) (nI a)) (y + 9) (Y 10 2) (nI b)) (y + 10) (Y 10 2) (jv_b g)) (y + 11) (Y 10 2) (nI w)) y 9 = nI (Y 10 2) by rw [jv_up_ne _ _ _ (by omega), jv_up_ne _ _ _ (by omega), jv_up_ne _ _ _ (by omega), jv_up_ne _ _ _ (by omega)]; exact yi_wishes hR) ?_
    refine jv_iconst dX3_addWish_54 jv_c_iconst_1 ?_
    refine jv_iaddN dX3_addWish_55 ?_
    refine jv_putI dX3_addWish_56 flX3_40 rfl (yk hG) rfl rfl ?_
    refine jv_aload0 dX3_addWish_59 ?_
    refine jv_getI dX3_addWish_60 flX3_40 rfl (yk hG) (show jv_up (jv_up (jv_up (jv_up (jv_up (I) (y + 8) (Y 10 2) (nI a)) (y + 9) (Y 10 2) (nI b)) (y + 10) (Y 10 2) (jv_b g)) (y + 11) (Y 10 2) (nI w)) y 9 (nI (Y 10 2 + 1)) y 9 = nI (Y 10 2 + 1) from jv_up_at _ _ _ _) ?_
    exact jv_iret dX3_addWish_63 rfl rfl rfl rfl rfl
theorem ot_addWishM {G : jv_Gr} {I : jv_I} {J : jv_J} {y : Nat} {Y : ot_Y} (hG : ot_YG G y) (hR : ot_YR I y Y) (hW : ot_YW Y) {a b w : Nat} (g : Prop) [Decidable g] (h20 : Y 10 2 < 20) : ∃ I2, jv_C 1 mX3_addWish [.ref y, .int (nI a), .int (nI b), .int (jv_b g), .int (nI w)] G I J (some (.int (nI (Y 10 2 + 1)))) G I2 J ∧ ot_YR I2 y (ot_addWish Y a b (if g then 1 else 0) w) ∧ ot_fr I I2 y (y + 11) := by
  have bn := yw_n hW
  have bc := yw_c hW
  have bw := yw_w hW
  refine ⟨_, ot_addWish0 hG hR hW g h20, ?_, fun q hq => ?_⟩
  · obtain ⟨⟨r1, r2, r3, r4⟩, g1, g2, g3⟩ := hR
    have n1 : ot_addWish Y a b (if g then 1 else 0) w 10 2 = Y 10 2 + 1 := by simp [ot_addWish]
    have hb : jv_b g = nI (if g then 1 else 0) := by unfold jv_b; split <;> rfl
    rw [hb]
    generalize (if g then 1 else 0) = gg at n1 ⊢
    refine ⟨⟨?_, ?_, ?_, ?_⟩, fun c hc => ?_, fun c hc => ?_, fun i hi => ?_⟩
    · simpa [jv_up, ot_addWish] using r1
    · simpa [jv_up, ot_addWish] using r2
    · simp [jv_up, ot_addWish]
    · simpa [jv_up, ot_addWish] using r4
    · have := g1 c (by simpa [ot_addWish] using hc)
      simpa [jv_up, ot_addWish] using this
    · have := g2 c (by simpa [ot_addWish] using hc)
      simpa [jv_up, ot_addWish] using this
    · rw [n1] at hi
      by_cases h : i = Y 10 2
      · subst h
        simp [jv_up, ot_addWish]
      · have := g3 i (by omega)
        simpa [jv_up, ot_addWish, h] using this
  · repeat rw [jv_up_ne _ _ _ (show q ≠ _ by omega)]
set_option maxRecDepth 20000 in
theorem ot_turnAboutM {G : jv_Gr} {I : jv_I} {J : jv_J} {y : Nat} {Y : ot_Y} (hG : ot_YG G y) (hR : ot_YR I y Y) (hW : ot_YW Y) : ∃ I2, jv_C 3 mX3_turnAbout [.ref y] G I J none G I2 J ∧ ot_YR I2 y (ot_turn Y) ∧ ∀ q, q ≠ y + 3 → q ≠ y + 4 → I2 q = I q := by
  have bn := yw_n hW
  have bc := yw_c hW
  have bw := yw_w hW
  have wfp : ∀ p, ot_YW (ot_put Y 2 (fun e => if Y 2 e < p ∨ Y 10 0 ≤ Y 2 e + p then Y 10 0 - 1 - Y 2 e else Y 2 e)) := by
    intro p
    refine ot_YW_places hW (fun c hc => ?_) (fun c e hc he q => ?_)
    · have := (yw_child hW hc).2.2.2
      show (if Y 2 c < p ∨ Y 10 0 ≤ Y 2 c + p then Y 10 0 - 1 - Y 2 c else Y 2 c) < Y 10 0
      split <;> omega
    · have j1 := (yw_child hW hc).2.2.2
      have j2 := (yw_child hW he).2.2.2
      have q' : (if Y 2 c < p ∨ Y 10 0 ≤ Y 2 c + p then Y 10 0 - 1 - Y 2 c else Y 2 c) = (if Y 2 e < p ∨ Y 10 0 ≤ Y 2 e + p then Y 10 0 - 1 - Y 2 e else Y 2 e) := q
      apply yw_inj hW hc he
      split at q' <;> split at q' <;> omega
  have loop : ∀ (n p : Nat) (I1 : jv_I), Y 10 0 / 2 + 1 ≤ p + n → p ≤ Y 10 0 / 2 → ot_YR I1 y (ot_put Y 2 (fun e => if Y 2 e < p ∨ Y 10 0 ≤ Y 2 e + p then Y 10 0 - 1 - Y 2 e else Y 2 e)) → (∀ q, q ≠ y + 3 → q ≠ y + 4 → I1 q = I q) → ∃ I2, jv_V 3 mX3_turnAbout 2 [.ref y, .int (nI p)] [] G I1 J none G I2 J ∧ ot_YR I2 y (ot_turn Y) ∧ ∀ q, q ≠ y + 3 → q ≠ y + 4 → I2 q = I q := by
    intro n
    induction n with
    | zero => intro p I1 b1 b2; omega
    | succ n ih =>
      intro p I1 b1 b2 h1 hF
      by_cases hp : p < Y 10 0 / 2
      · obtain ⟨a, ha, pa⟩ := ot_who hW (show p < Y 10 0 by omega)
        obtain ⟨b, hb, pb⟩ := ot_who hW (show Y 10 0 - 1 - p < Y 10 0 by omega)
        have fa : (fun e => if Y 2 e < p ∨ Y 10 0 ≤ Y 2 e + p then Y 10 0 - 1 - Y 2 e else Y 2 e) a = p := by
          show (if Y 2 a < p ∨ Y 10 0 ≤ Y 2 a + p then Y 10 0 - 1 - Y 2 a else Y 2 a) = p
          rw [if_neg (by omega)]; exact pa
        have fb : (fun e => if Y 2 e < p ∨ Y 10 0 ≤ Y 2 e + p then Y 10 0 - 1 - Y 2 e else Y 2 e) b = Y 10 0 - 1 - p := by
          show (if Y 2 b < p ∨ Y 10 0 ≤ Y 2 b + p then Y 10 0 - 1 - Y 2 b else Y 2 b) = _
          rw [if_neg (by omega)]; exact pb
        have w1 : I1 (y + 4) p = nI a := by
          have := ye_who h1 (c := a) ha
          rw [show ot_put Y 2 (fun e => if Y 2 e < p ∨ Y 10 0 ≤ Y 2 e + p then Y 10 0 - 1 - Y 2 e else Y 2 e) 2 a = p from fa] at this
          exact this
        have w2 : I1 (y + 4) (Y 10 0 - 1 - p) = nI b := by
          have := ye_who h1 (c := b) hb
          rw [show ot_put Y 2 (fun e => if Y 2 e < p ∨ Y 10 0 ≤ Y 2 e + p then Y 10 0 - 1 - Y 2 e else Y 2 e) 2 b = Y 10 0 - 1 - p from fb] at this
          exact this
        obtain ⟨I2, hC, hR2, hF2⟩ := ot_exchangeM (J := J) hG h1 (wfp p) (a := a) (b := b) ha hb
        rw [ot_swap_put] at hR2
        have hR3 := ot_YR_congr (g := (fun e => if Y 2 e < p + 1 ∨ Y 10 0 ≤ Y 2 e + (p + 1) then Y 10 0 - 1 - Y 2 e else Y 2 e)) hR2 (fun c hc => by
          unfold ot_swapF
          by_cases c1 : c = b
          · subst c1
            rw [if_pos rfl, fa, if_pos (by omega)]
            omega
          · rw [if_neg c1]
            by_cases c2 : c = a
            · subst c2
              rw [if_pos rfl, fb, if_pos (by omega)]
              omega
            · rw [if_neg c2]
              have n1 : Y 2 c ≠ p := fun z => c2 (yw_inj hW hc ha (by omega))
              have n2 : Y 2 c ≠ Y 10 0 - 1 - p := fun z => c1 (yw_inj hW hc hb (by omega))
              have := (yw_child hW hc).2.2.2
              show (if Y 2 c < p ∨ Y 10 0 ≤ Y 2 c + p then Y 10 0 - 1 - Y 2 c else Y 2 c) = _
              repeat' split
              all_goals omega)
        obtain ⟨I3, hV, hR4, hF4⟩ := ih (p + 1) I2 (by omega) (by omega) hR3 (fun q q1 q2 => (hF2 q q1 q2).trans (hF q q1 q2))
        refine ⟨I3, ?_, hR4, hF4⟩
        refine jv_iload1 dX3_turnAbout_2 ?_
        refine jv_aload0 dX3_turnAbout_3 ?_
        refine jv_getI dX3_turnAbout_4 flX3_9 rfl (yk hG) (show I1 y 0 = nI (Y 10 0) from h1.1.1) ?_
        refine jv_iconst dX3_turnAbout_7 jv_c_iconst_2 ?_
        refine jv_idivN dX3_turnAbout_8 (by omega) (by omega) (by omega) ?_
        refine jv_icmp_geN dX3_turnAbout_9 (tgt := 41) (by decide) (by omega) (by omega) (fun h9 => by omega) (fun h9 => ?_)
        refine jv_aload0 dX3_turnAbout_12 ?_
        refine jv_aload0 dX3_turnAbout_13 ?_
        refine jv_getR dX3_turnAbout_14 flX3_25 rfl (yk hG) (yr_who hG) ?_
        refine jv_iload1 dX3_turnAbout_17 ?_
        refine jv_ialdN dX3_turnAbout_18 (yk_who hG) (by omega) (by decide) w1 ?_
        refine jv_aload0 dX3_turnAbout_19 ?_
        refine jv_getR dX3_turnAbout_20 flX3_25 rfl (yk hG) (yr_who hG) ?_
        refine jv_aload0 dX3_turnAbout_23 ?_
        refine jv_getI dX3_turnAbout_24 flX3_9 rfl (yk hG) (show I1 y 0 = nI (Y 10 0) from h1.1.1) ?_
        refine jv_iconst dX3_turnAbout_27 jv_c_iconst_1 ?_
        refine jv_isubN dX3_turnAbout_28 (by omega) ?_
        refine jv_iload1 dX3_turnAbout_29 ?_
        refine jv_isubN dX3_turnAbout_30 (by omega) ?_
        refine jv_ialdN dX3_turnAbout_31 (yk_who hG) (by omega) (by decide) w2 ?_
        refine jv_v20 dX3_turnAbout_32 okX3_exchange inX3_exchange seX3_exchange mlX3_76 (ci := 3) (T := TX3) (N := 15) rfl (yk hG) hC (by decide) (Nat.le_of_ble_eq_true rfl) ?_
        refine jv_iinc1N dX3_turnAbout_35 rfl ?_
        refine jv_goto dX3_turnAbout_38 (tgt := 2) (by decide) ?_
        exact hV
      · refine ⟨I1, ?_, ot_YR_congr h1 (fun c hc => ?_), hF⟩
        · refine jv_iload1 dX3_turnAbout_2 ?_
          refine jv_aload0 dX3_turnAbout_3 ?_
          refine jv_getI dX3_turnAbout_4 flX3_9 rfl (yk hG) (show I1 y 0 = nI (Y 10 0) from h1.1.1) ?_
          refine jv_iconst dX3_turnAbout_7 jv_c_iconst_2 ?_
          refine jv_idivN dX3_turnAbout_8 (by omega) (by omega) (by omega) ?_
          refine jv_icmp_geN dX3_turnAbout_9 (tgt := 41) (by decide) (by omega) (by omega) (fun h9 => ?_) (fun h9 => by omega)
          exact jv_vret dX3_turnAbout_41 rfl rfl rfl rfl
        · have := (yw_child hW hc).2.2.2
          show (if Y 2 c < p ∨ Y 10 0 ≤ Y 2 c + p then Y 10 0 - 1 - Y 2 c else Y 2 c) = _
          split <;> omega
  have r0 : ot_YR I y (ot_put Y 2 (fun e => if Y 2 e < 0 ∨ Y 10 0 ≤ Y 2 e + 0 then Y 10 0 - 1 - Y 2 e else Y 2 e)) := by
    have h0 : ot_YR I y (ot_put Y 2 (Y 2)) := by rw [ot_put_same]; exact hR
    refine ot_YR_congr h0 (fun c hc => ?_)
    have := (yw_child hW hc).2.2.2
    rw [if_neg (by omega)]
  obtain ⟨I2, hV, hR2, hF⟩ := loop (Y 10 0 / 2 + 1) 0 I (by omega) (by omega) r0 (fun _ _ _ => rfl)
  refine ⟨I2, ?_, hR2, hF⟩
  refine jv_enter okX3_turnAbout (L := [.ref y, .null]) rfl (Nat.le_of_ble_eq_true rfl) ?_
  refine jv_iconst dX3_turnAbout_0 jv_c_iconst_0 ?_
  refine jv_istore1 dX3_turnAbout_1 rfl ?_
  exact hV
