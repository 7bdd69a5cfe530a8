/-! ===== the component's Yard: more reads ===== -/
def ot_bits (p : Nat → Bool) : Nat → Int32
  | 0 => nI 0
  | n + 1 => if p n = true then ot_bits p n ||| (nI 1 <<< (nI n &&& 31)) else ot_bits p n
def ot_inW (Y : ot_Y) (c i : Nat) : Bool := decide (Y 6 i = c) || decide (Y 7 i = c)
def ot_wishesOf (Y : ot_Y) (c : Nat) : Nat := ot_sum (fun i => if ot_inW Y c i = true then 1 else 0) (Y 10 2)
def ot_allWorths (Y : ot_Y) : Nat := ot_sum (fun i => Y 9 i) (Y 10 2)
def ot_allStrong (Y : ot_Y) : Nat := ot_sum (fun c => Y 0 c) (Y 10 0)
def ot_strongOf (Y : ot_Y) (k t : Nat) : Nat := ot_sum (fun c => if ot_sideOf Y k c = t then Y 0 c else 0) (Y 10 0)
def ot_bitsOf (Y : ot_Y) (k t : Nat) : Int32 := ot_bits (fun c => decide (ot_sideOf Y k c = t)) (Y 10 0)
def ot_max (f : Nat → Nat) (b : Nat) : Nat → Nat
  | 0 => b
  | n + 1 => if ot_max f b n < f n then f n else ot_max f b n
def ot_min (f : Nat → Nat) (b : Nat) : Nat → Nat
  | 0 => b
  | n + 1 => if f n < ot_min f b n then f n else ot_min f b n
def ot_even (Y : ot_Y) (k : Nat) : Nat := ot_max (fun t => ot_strongOf Y k (t + 1)) (ot_strongOf Y k 0) (Y 4 k - 1) - ot_min (fun t => ot_strongOf Y k (t + 1)) (ot_strongOf Y k 0) (Y 4 k - 1)
def ot_times (Y : ot_Y) (a b : Nat) : Nat := ot_sum (fun k => if ot_sideOf Y k a = ot_sideOf Y k b then 1 else 0) (Y 10 1)
def ot_wrong (Y : ot_Y) (k : Nat) (E : Nat → Int64) : Nat := ot_sum (fun c => if E c = lN (ot_sideOf Y k c) then 0 else 1) (Y 10 0)
def ot_valueAll (Y : ot_Y) : Nat := ot_sum (fun k => ot_value Y k) (Y 10 1)
def ot_dist (a b : Nat) : Nat := if a ≤ b then b - a else a - b
def ot_may (Y : ot_Y) (a b : Nat) : Prop := ot_dist (Y 2 a) (Y 2 b) ≤ Y 1 a ∧ ot_dist (Y 2 a) (Y 2 b) ≤ Y 1 b
theorem ot_sum_part {f : Nat → Nat} {b n m : Nat} (h : ∀ i, i < m → f i ≤ b) (hn : n ≤ m) (hm : m ≤ 20) (hb : b ≤ 2000) : ot_sum f n ≤ 40000 := by
  have h1 := ot_sum_le n (fun i hi => h i (by omega))
  have h2 : n * b ≤ 20 * 2000 := Nat.mul_le_mul (by omega) hb
  omega
theorem ot_strongOf_le {Y : ot_Y} (hW : ot_YW Y) (k t : Nat) : ot_strongOf Y k t ≤ 40000 := by
  have bn := yw_n hW
  refine ot_sum_part (b := 99) (m := Y 10 0) (fun c hc => ?_) (Nat.le_refl _) (by omega) (by omega)
  have := yw_child hW hc
  show (if ot_sideOf Y k c = t then Y 0 c else 0) ≤ 99
  split <;> omega
theorem ot_max_le {f : Nat → Nat} {b m : Nat} (hb : b ≤ m) (hf : ∀ i, f i ≤ m) : ∀ n, ot_max f b n ≤ m
  | 0 => hb
  | n + 1 => by
    rw [ot_max]
    split
    · exact hf n
    · exact ot_max_le hb hf n
theorem ot_min_le {f : Nat → Nat} {b : Nat} : ∀ n, ot_min f b n ≤ b
  | 0 => Nat.le_refl _
  | n + 1 => by
    have h := ot_min_le (f := f) (b := b) n
    rw [ot_min]
    split <;> omega
theorem ot_max_ge {f : Nat → Nat} {b : Nat} : ∀ n, b ≤ ot_max f b n
  | 0 => Nat.le_refl _
  | n + 1 => by
    have h := ot_max_ge (f := f) (b := b) n
    rw [ot_max]
    split <;> omega
theorem ot_cmp_eq {x y : Int64} : lg_cmp x y = 0 ↔ x = y := by
  unfold lg_cmp
  split
  · rename_i h
    constructor
    · intro q; exact absurd q (by decide)
    · intro q; subst q; exact absurd h (by simp)
  · split
    · rename_i h1 h
      constructor
      · intro q; first | exact absurd q (by decide) | (subst q; exact absurd h (by simp)) | exact h
      · intro q; subst q; first | rfl | exact absurd h (by simp)
    · rename_i h1 h
      constructor
      · intro q; first | exact absurd q (by decide) | exact Int64.le_antisymm (Int64.not_lt.mp h) (Int64.not_lt.mp h1)
      · intro q; subst q; first | rfl | exact absurd rfl h
set_option maxRecDepth 20000 in
theorem ot_wishesOfM {G : jv_Gr} {I : jv_I} {J : jv_J} {y : Nat} {Y : ot_Y} (hG : ot_YG G y) (hR : ot_YR I y Y) (hW : ot_YW Y) {c : Nat} (hc : c < Y 10 0) : jv_C 1 mX3_wishesOf [.ref y, .int (nI c)] G I J (some (.int (nI (ot_wishesOf Y c)))) G I J := by
  refine jv_enter okX3_wishesOf (L := [.ref y, .int (nI c), .null, .null]) rfl (Nat.le_of_ble_eq_true rfl) ?_
  have bn := yw_n hW
  have bc := yw_c hW
  have bw := yw_w hW
  have loop : ∀ (n i : Nat) (acc : Nat), Y 10 2 + 1 ≤ i + n → i ≤ Y 10 2 → acc = ot_sum (fun i => if ot_inW Y c i = true then 1 else 0) i → jv_V 1 mX3_wishesOf 4 [.ref y, .int (nI c), .int (nI acc), .int (nI i)] [] G I J (some (.int (nI (ot_wishesOf Y c)))) G I J := by
    intro n
    induction n with
    | zero => intro i acc h1 h2; omega
    | succ n ih =>
      intro i acc h1 h2 ea
      refine jv_iload3 dX3_wishesOf_4 ?_
      refine jv_aload0 dX3_wishesOf_5 ?_
      refine jv_getI dX3_wishesOf_6 flX3_40 rfl (yk hG) (yi_wishes hR) ?_
      refine jv_icmp_geN dX3_wishesOf_9 (tgt := 41) (by decide) (by omega) (by omega) (fun h9 => ?_) (fun h9 => ?_)
      · refine jv_iload2 dX3_wishesOf_41 ?_
        exact jv_iret dX3_wishesOf_42 rfl rfl (by rw [ea, show i = Y 10 2 by omega]; rfl) rfl rfl
      · have hq := yw_wish hW (show i < Y 10 2 by omega)
        refine jv_aload0 dX3_wishesOf_12 ?_
        refine jv_getR dX3_wishesOf_13 flX3_43 rfl (yk hG) (yr_firsts hG) ?_
        refine jv_iload3 dX3_wishesOf_16 ?_
        refine jv_ialdN dX3_wishesOf_17 (yk_firsts hG) (by omega) (by decide) (ye_firsts hR (by omega)) ?_
        refine jv_iload1 dX3_wishesOf_18 ?_
        refine jv_icmp_eqN dX3_wishesOf_19 (tgt := 32) (by decide) (by omega) (by omega) (fun h19 => ?_) (fun h19 => ?_)
        · refine jv_iinc2N dX3_wishesOf_32 rfl ?_
          refine jv_iinc3N dX3_wishesOf_35 rfl ?_
          refine jv_goto dX3_wishesOf_38 (tgt := 4) (by decide) ?_
          exact ih (i + 1) _ (by omega) (by omega) (by rw [ot_sum, if_pos (by unfold ot_inW; simp [h19]), ea])
        · refine jv_aload0 dX3_wishesOf_22 ?_
          refine jv_getR dX3_wishesOf_23 flX3_46 rfl (yk hG) (yr_seconds hG) ?_
          refine jv_iload3 dX3_wishesOf_26 ?_
          refine jv_ialdN dX3_wishesOf_27 (yk_seconds hG) (by omega) (by decide) (ye_seconds hR (by omega)) ?_
          refine jv_iload1 dX3_wishesOf_28 ?_
          refine jv_icmp_neN dX3_wishesOf_29 (tgt := 35) (by decide) (by omega) (by omega) (fun h29 => ?_) (fun h29 => ?_)
          · refine jv_iinc3N dX3_wishesOf_35 rfl ?_
            refine jv_goto dX3_wishesOf_38 (tgt := 4) (by decide) ?_
            exact ih (i + 1) _ (by omega) (by omega) (by rw [ot_sum, if_neg (by unfold ot_inW; simp [h19, h29]), ea]; rfl)
          · refine jv_iinc2N dX3_wishesOf_32 rfl ?_
            refine jv_iinc3N dX3_wishesOf_35 rfl ?_
            refine jv_goto dX3_wishesOf_38 (tgt := 4) (by decide) ?_
            exact ih (i + 1) _ (by omega) (by omega) (by rw [ot_sum, if_pos (by unfold ot_inW; simp [h29]), ea])
  refine jv_iconst dX3_wishesOf_0 jv_c_iconst_0 ?_
  refine jv_istore2 dX3_wishesOf_1 rfl ?_
  refine jv_iconst dX3_wishesOf_2 jv_c_iconst_0 ?_
  refine jv_istore3 dX3_wishesOf_3 rfl ?_
  exact loop (Y 10 2 + 1) 0 0 (by omega) (by omega) rfl
set_option maxRecDepth 20000 in
theorem ot_allWorthsM {G : jv_Gr} {I : jv_I} {J : jv_J} {y : Nat} {Y : ot_Y} (hG : ot_YG G y) (hR : ot_YR I y Y) (hW : ot_YW Y) : jv_C 1 mX3_allWorths [.ref y] G I J (some (.int (nI (ot_allWorths Y)))) G I J := by
  refine jv_enter okX3_allWorths (L := [.ref y, .null, .null]) rfl (Nat.le_of_ble_eq_true rfl) ?_
  have bn := yw_n hW
  have bc := yw_c hW
  have bw := yw_w hW
  have loop : ∀ (n i : Nat) (acc : Nat), Y 10 2 + 1 ≤ i + n → i ≤ Y 10 2 → acc = ot_sum (fun i => Y 9 i) i → jv_V 1 mX3_allWorths 4 [.ref y, .int (nI acc), .int (nI i)] [] G I J (some (.int (nI (ot_allWorths Y)))) G I J := by
    intro n
    induction n with
    | zero => intro i acc h1 h2; omega
    | succ n ih =>
      intro i acc h1 h2 ea
      refine jv_iload2 dX3_allWorths_4 ?_
      refine jv_aload0 dX3_allWorths_5 ?_
      refine jv_getI dX3_allWorths_6 flX3_40 rfl (yk hG) (yi_wishes hR) ?_
      refine jv_icmp_geN dX3_allWorths_9 (tgt := 27) (by decide) (by omega) (by omega) (fun hc9 => ?_) (fun hc9 => ?_)
      · refine jv_iload1 dX3_allWorths_27 ?_
        exact jv_iret dX3_allWorths_28 rfl rfl (by rw [ea, show i = Y 10 2 by omega]; rfl) rfl rfl
      · refine jv_iload1 dX3_allWorths_12 ?_
        refine jv_aload0 dX3_allWorths_13 ?_
        refine jv_getR dX3_allWorths_14 flX3_52 rfl (yk hG) (yr_worths hG) ?_
        refine jv_iload2 dX3_allWorths_17 ?_
        refine jv_ialdN dX3_allWorths_18 (yk_worths hG) (by omega) (by decide) (ye_worths hR (by omega)) ?_
        refine jv_iaddN dX3_allWorths_19 ?_
        refine jv_istore1 dX3_allWorths_20 rfl ?_
        refine jv_iinc2N dX3_allWorths_21 rfl ?_
        refine jv_goto dX3_allWorths_24 (tgt := 4) (by decide) ?_
        exact ih (i + 1) _ (by omega) (by omega) (by rw [ot_sum, ea])
  refine jv_iconst dX3_allWorths_0 jv_c_iconst_0 ?_
  refine jv_istore1 dX3_allWorths_1 rfl ?_
  refine jv_iconst dX3_allWorths_2 jv_c_iconst_0 ?_
  refine jv_istore2 dX3_allWorths_3 rfl ?_
  exact loop (Y 10 2 + 1) 0 0 (by omega) (by omega) rfl
set_option maxRecDepth 20000 in
theorem ot_allStrongM {G : jv_Gr} {I : jv_I} {J : jv_J} {y : Nat} {Y : ot_Y} (hG : ot_YG G y) (hR : ot_YR I y Y) (hW : ot_YW Y) : jv_C 1 mX3_allStrong [.ref y] G I J (some (.int (nI (ot_allStrong Y)))) G I J := by
  refine jv_enter okX3_allStrong (L := [.ref y, .null, .null]) rfl (Nat.le_of_ble_eq_true rfl) ?_
  have bn := yw_n hW
  have bc := yw_c hW
  have bw := yw_w hW
  have loop : ∀ (n i : Nat) (acc : Nat), Y 10 0 + 1 ≤ i + n → i ≤ Y 10 0 → acc = ot_sum (fun c => Y 0 c) i → jv_V 1 mX3_allStrong 4 [.ref y, .int (nI acc), .int (nI i)] [] G I J (some (.int (nI (ot_allStrong Y)))) G I J := by
    intro n
    induction n with
    | zero => intro i acc h1 h2; omega
    | succ n ih =>
      intro i acc h1 h2 ea
      refine jv_iload2 dX3_allStrong_4 ?_
      refine jv_aload0 dX3_allStrong_5 ?_
      refine jv_getI dX3_allStrong_6 flX3_9 rfl (yk hG) (yi_children hR) ?_
      refine jv_icmp_geN dX3_allStrong_9 (tgt := 27) (by decide) (by omega) (by omega) (fun hc9 => ?_) (fun hc9 => ?_)
      · refine jv_iload1 dX3_allStrong_27 ?_
        exact jv_iret dX3_allStrong_28 rfl rfl (by rw [ea, show i = Y 10 0 by omega]; rfl) rfl rfl
      · refine jv_iload1 dX3_allStrong_12 ?_
        refine jv_aload0 dX3_allStrong_13 ?_
        refine jv_getR dX3_allStrong_14 flX3_15 rfl (yk hG) (yr_strong hG) ?_
        refine jv_iload2 dX3_allStrong_17 ?_
        refine jv_ialdN dX3_allStrong_18 (yk_strong hG) (by omega) (by decide) (ye_strong hR (by omega)) ?_
        refine jv_iaddN dX3_allStrong_19 ?_
        refine jv_istore1 dX3_allStrong_20 rfl ?_
        refine jv_iinc2N dX3_allStrong_21 rfl ?_
        refine jv_goto dX3_allStrong_24 (tgt := 4) (by decide) ?_
        exact ih (i + 1) _ (by omega) (by omega) (by rw [ot_sum, ea])
  refine jv_iconst dX3_allStrong_0 jv_c_iconst_0 ?_
  refine jv_istore1 dX3_allStrong_1 rfl ?_
  refine jv_iconst dX3_allStrong_2 jv_c_iconst_0 ?_
  refine jv_istore2 dX3_allStrong_3 rfl ?_
  exact loop (Y 10 0 + 1) 0 0 (by omega) (by omega) rfl
set_option maxRecDepth 20000 in
theorem ot_strongOfM {G : jv_Gr} {I : jv_I} {J : jv_J} {y : Nat} {Y : ot_Y} (hG : ot_YG G y) (hR : ot_YR I y Y) (hW : ot_YW Y) {k t : Nat} (hk : k < Y 10 1) (ht : t < 5) : jv_C 4 mX3_strongOfSide [.ref y, .int (nI k), .int (nI t)] G I J (some (.int (nI (ot_strongOf Y k t)))) G I J := by
  refine jv_enter okX3_strongOfSide (L := [.ref y, .int (nI k), .int (nI t), .null, .null]) rfl (Nat.le_of_ble_eq_true rfl) ?_
  have bn := yw_n hW
  have bc := yw_c hW
  have bw := yw_w hW
  have loop : ∀ (n i : Nat) (acc : Nat), Y 10 0 + 1 ≤ i + n → i ≤ Y 10 0 → acc = ot_sum (fun c => if ot_sideOf Y k c = t then Y 0 c else 0) i → jv_V 4 mX3_strongOfSide 5 [.ref y, .int (nI k), .int (nI t), .int (nI acc), .int (nI i)] [] G I J (some (.int (nI (ot_strongOf Y k t)))) G I J := by
    intro n
    induction n with
    | zero => intro i acc h1 h2; omega
    | succ n ih =>
      intro i acc h1 h2 ea
      refine jv_iload4 dX3_strongOfSide_5 ?_
      refine jv_aload0 dX3_strongOfSide_7 ?_
      refine jv_getI dX3_strongOfSide_8 flX3_9 rfl (yk hG) (yi_children hR) ?_
      refine jv_icmp_geN dX3_strongOfSide_11 (tgt := 41) (by decide) (by omega) (by omega) (fun hc11 => ?_) (fun hc11 => ?_)
      · refine jv_iload3 dX3_strongOfSide_41 ?_
        exact jv_iret dX3_strongOfSide_42 rfl rfl (by rw [ea, show i = Y 10 0 by omega]; rfl) rfl rfl
      · refine jv_aload0 dX3_strongOfSide_14 ?_
        refine jv_iload1 dX3_strongOfSide_15 ?_
        refine jv_iload4 dX3_strongOfSide_16 ?_
        refine jv_v21 dX3_strongOfSide_18 okX3_sideOf inX3_sideOf seX3_sideOf mlX3_112 (ci := 3) (T := TX3) (N := 15) rfl (yk hG) (ot_sideOfM hG hR hW hk (by omega)) (by decide) (Nat.le_of_ble_eq_true rfl) ?_
        refine jv_iload2 dX3_strongOfSide_21 ?_
        refine jv_icmp_neN dX3_strongOfSide_22 (tgt := 35) (by decide) (by have := ot_side_5 hW hk (Y 2 i); unfold ot_sideOf; omega) (by omega) (fun h22 => ?_) (fun h22 => ?_)
        · refine jv_iinc4N dX3_strongOfSide_35 rfl ?_
          refine jv_goto dX3_strongOfSide_38 (tgt := 5) (by decide) ?_
          exact ih (i + 1) _ (by omega) (by omega) (by rw [ot_sum, if_neg h22, ea]; rfl)
        · refine jv_iload3 dX3_strongOfSide_25 ?_
          refine jv_aload0 dX3_strongOfSide_26 ?_
          refine jv_getR dX3_strongOfSide_27 flX3_15 rfl (yk hG) (yr_strong hG) ?_
          refine jv_iload4 dX3_strongOfSide_30 ?_
          refine jv_ialdN dX3_strongOfSide_32 (yk_strong hG) (by omega) (by decide) (ye_strong hR (by omega)) ?_
          refine jv_iaddN dX3_strongOfSide_33 ?_
          refine jv_istore3 dX3_strongOfSide_34 rfl ?_
          refine jv_iinc4N dX3_strongOfSide_35 rfl ?_
          refine jv_goto dX3_strongOfSide_38 (tgt := 5) (by decide) ?_
          exact ih (i + 1) _ (by omega) (by omega) (by rw [ot_sum, if_pos h22, ea])
  refine jv_iconst dX3_strongOfSide_0 jv_c_iconst_0 ?_
  refine jv_istore3 dX3_strongOfSide_1 rfl ?_
  refine jv_iconst dX3_strongOfSide_2 jv_c_iconst_0 ?_
  refine jv_istore4 dX3_strongOfSide_3 rfl ?_
  exact loop (Y 10 0 + 1) 0 0 (by omega) (by omega) rfl
set_option maxRecDepth 20000 in
theorem ot_timesM {G : jv_Gr} {I : jv_I} {J : jv_J} {y : Nat} {Y : ot_Y} (hG : ot_YG G y) (hR : ot_YR I y Y) (hW : ot_YW Y) {a b : Nat} (ha : a < Y 10 0) (hb : b < Y 10 0) : jv_C 4 mX3_timesTogether [.ref y, .int (nI a), .int (nI b)] G I J (some (.int (nI (ot_times Y a b)))) G I J := by
  refine jv_enter okX3_timesTogether (L := [.ref y, .int (nI a), .int (nI b), .null, .null]) rfl (Nat.le_of_ble_eq_true rfl) ?_
  have bn := yw_n hW
  have bc := yw_c hW
  have bw := yw_w hW
  have loop : ∀ (n i : Nat) (acc : Nat), Y 10 1 + 1 ≤ i + n → i ≤ Y 10 1 → acc = ot_sum (fun k => if ot_sideOf Y k a = ot_sideOf Y k b then 1 else 0) i → jv_V 4 mX3_timesTogether 5 [.ref y, .int (nI a), .int (nI b), .int (nI acc), .int (nI i)] [] G I J (some (.int (nI (ot_times Y a b)))) G I J := by
    intro n
    induction n with
    | zero => intro i acc h1 h2; omega
    | succ n ih =>
      intro i acc h1 h2 ea
      refine jv_iload4 dX3_timesTogether_5 ?_
      refine jv_aload0 dX3_timesTogether_7 ?_
      refine jv_getI dX3_timesTogether_8 flX3_28 rfl (yk hG) (yi_counts hR) ?_
      refine jv_icmp_geN dX3_timesTogether_11 (tgt := 34) (by decide) (by omega) (by omega) (fun hc11 => ?_) (fun hc11 => ?_)
      · refine jv_iload3 dX3_timesTogether_34 ?_
        exact jv_iret dX3_timesTogether_35 rfl rfl (by rw [ea, show i = Y 10 1 by omega]; rfl) rfl rfl
      · refine jv_aload0 dX3_timesTogether_14 ?_
        refine jv_iload4 dX3_timesTogether_15 ?_
        refine jv_iload1 dX3_timesTogether_17 ?_
        refine jv_iload2 dX3_timesTogether_18 ?_
        refine jv_v31 dX3_timesTogether_19 okX3_sameSide inX3_sameSide seX3_sameSide mlX3_124 (ci := 3) (T := TX3) (N := 15) rfl (yk hG) (ot_sameSideM hG hR hW (by omega) ha hb) (by decide) (Nat.le_of_ble_eq_true rfl) ?_
        refine jv_if_eqB dX3_timesTogether_22 (tgt := 28) (by decide) (fun h22 => ?_) (fun h22 => ?_)
        · refine jv_iinc4N dX3_timesTogether_28 rfl ?_
          refine jv_goto dX3_timesTogether_31 (tgt := 5) (by decide) ?_
          exact ih (i + 1) _ (by omega) (by omega) (by rw [ot_sum, if_neg h22, ea]; rfl)
        · refine jv_iinc3N dX3_timesTogether_25 rfl ?_
          refine jv_iinc4N dX3_timesTogether_28 rfl ?_
          refine jv_goto dX3_timesTogether_31 (tgt := 5) (by decide) ?_
          exact ih (i + 1) _ (by omega) (by omega) (by rw [ot_sum, if_pos h22, ea])
  refine jv_iconst dX3_timesTogether_0 jv_c_iconst_0 ?_
  refine jv_istore3 dX3_timesTogether_1 rfl ?_
  refine jv_iconst dX3_timesTogether_2 jv_c_iconst_0 ?_
  refine jv_istore4 dX3_timesTogether_3 rfl ?_
  exact loop (Y 10 1 + 1) 0 0 (by omega) (by omega) rfl
set_option maxRecDepth 20000 in
theorem ot_valueAllM {G : jv_Gr} {I : jv_I} {J : jv_J} {y : Nat} {Y : ot_Y} (hG : ot_YG G y) (hR : ot_YR I y Y) (hW : ot_YW Y) : jv_C 5 mX3_valueByAll [.ref y] G I J (some (.int (nI (ot_valueAll Y)))) G I J := by
  refine jv_enter okX3_valueByAll (L := [.ref y, .null, .null]) rfl (Nat.le_of_ble_eq_true rfl) ?_
  have bn := yw_n hW
  have bc := yw_c hW
  have bw := yw_w hW
  have loop : ∀ (n i : Nat) (acc : Nat), Y 10 1 + 1 ≤ i + n → i ≤ Y 10 1 → acc = ot_sum (fun k => ot_value Y k) i → jv_V 5 mX3_valueByAll 4 [.ref y, .int (nI acc), .int (nI i)] [] G I J (some (.int (nI (ot_valueAll Y)))) G I J := by
    intro n
    induction n with
    | zero => intro i acc h1 h2; omega
    | succ n ih =>
      intro i acc h1 h2 ea
      refine jv_iload2 dX3_valueByAll_4 ?_
      refine jv_aload0 dX3_valueByAll_5 ?_
      refine jv_getI dX3_valueByAll_6 flX3_28 rfl (yk hG) (yi_counts hR) ?_
      refine jv_icmp_geN dX3_valueByAll_9 (tgt := 26) (by decide) (by omega) (by omega) (fun hc9 => ?_) (fun hc9 => ?_)
      · refine jv_iload1 dX3_valueByAll_26 ?_
        exact jv_iret dX3_valueByAll_27 rfl rfl (by rw [ea, show i = Y 10 1 by omega]; rfl) rfl rfl
      · refine jv_iload1 dX3_valueByAll_12 ?_
        refine jv_aload0 dX3_valueByAll_13 ?_
        refine jv_iload2 dX3_valueByAll_14 ?_
        refine jv_v11 dX3_valueByAll_15 okX3_valueBy inX3_valueBy seX3_valueBy mlX3_109 (ci := 3) (T := TX3) (N := 15) rfl (yk hG) (ot_valueByM hG hR hW (by omega)) (by decide) (Nat.le_of_ble_eq_true rfl) ?_
        refine jv_iaddN dX3_valueByAll_18 ?_
        refine jv_istore1 dX3_valueByAll_19 rfl ?_
        refine jv_iinc2N dX3_valueByAll_20 rfl ?_
        refine jv_goto dX3_valueByAll_23 (tgt := 4) (by decide) ?_
        exact ih (i + 1) _ (by omega) (by omega) (by rw [ot_sum, ea])
  refine jv_iconst dX3_valueByAll_0 jv_c_iconst_0 ?_
  refine jv_istore1 dX3_valueByAll_1 rfl ?_
  refine jv_iconst dX3_valueByAll_2 jv_c_iconst_0 ?_
  refine jv_istore2 dX3_valueByAll_3 rfl ?_
  exact loop (Y 10 1 + 1) 0 0 (by omega) (by omega) rfl
set_option maxRecDepth 20000 in
theorem ot_wrongM {G : jv_Gr} {I : jv_I} {J : jv_J} {y : Nat} {Y : ot_Y} (hG : ot_YG G y) (hR : ot_YR I y Y) (hW : ot_YW Y) {k q nq : Nat} (hk : k < Y 10 1) (hq : jv_k G q = (1, nq)) (hnq : Y 10 0 ≤ nq) (hb : nq < 100) : jv_C 4 mX3_unlikeTold [.ref y, .int (nI k), .ref q] G I J (some (.int (nI (ot_wrong Y k (J q))))) G I J := by
  refine jv_enter okX3_unlikeTold (L := [.ref y, .int (nI k), .ref q, .null, .null]) rfl (Nat.le_of_ble_eq_true rfl) ?_
  have bn := yw_n hW
  have bc := yw_c hW
  have bw := yw_w hW
  have loop : ∀ (n i : Nat) (acc : Nat), Y 10 0 + 1 ≤ i + n → i ≤ Y 10 0 → acc = ot_sum (fun c => if J q c = lN (ot_sideOf Y k c) then 0 else 1) i → jv_V 4 mX3_unlikeTold 5 [.ref y, .int (nI k), .ref q, .int (nI acc), .int (nI i)] [] G I J (some (.int (nI (ot_wrong Y k (J q))))) G I J := by
    intro n
    induction n with
    | zero => intro i acc h1 h2; omega
    | succ n ih =>
      intro i acc h1 h2 ea
      refine jv_iload4 dX3_unlikeTold_5 ?_
      refine jv_aload0 dX3_unlikeTold_7 ?_
      refine jv_getI dX3_unlikeTold_8 flX3_9 rfl (yk hG) (yi_children hR) ?_
      refine jv_icmp_geN dX3_unlikeTold_11 (tgt := 39) (by decide) (by omega) (by omega) (fun hc11 => ?_) (fun hc11 => ?_)
      · refine jv_iload3 dX3_unlikeTold_39 ?_
        exact jv_iret dX3_unlikeTold_40 rfl rfl (by rw [ea, show i = Y 10 0 by omega]; rfl) rfl rfl
      · refine jv_aload2 dX3_unlikeTold_14 ?_
        refine jv_iload4 dX3_unlikeTold_15 ?_
        refine jv_laldN dX3_unlikeTold_17 hq (by omega) (by omega) rfl ?_
        refine jv_aload0 dX3_unlikeTold_18 ?_
        refine jv_iload1 dX3_unlikeTold_19 ?_
        refine jv_iload4 dX3_unlikeTold_20 ?_
        refine jv_v21 dX3_unlikeTold_22 okX3_sideOf inX3_sideOf seX3_sideOf mlX3_112 (ci := 3) (T := TX3) (N := 15) rfl (yk hG) (ot_sideOfM hG hR hW hk (by omega)) (by decide) (Nat.le_of_ble_eq_true rfl) ?_
        refine jv_i2lN dX3_unlikeTold_25 (by have := ot_side_5 hW hk (Y 2 i); unfold ot_sideOf; omega) ?_
        refine jv_lcmp dX3_unlikeTold_26 ?_
        refine jv_if_eq dX3_unlikeTold_27 (tgt := 33) (by decide) (fun h27 => ?_) (fun h27 => ?_)
        · refine jv_iinc4N dX3_unlikeTold_33 rfl ?_
          refine jv_goto dX3_unlikeTold_36 (tgt := 5) (by decide) ?_
          exact ih (i + 1) _ (by omega) (by omega) (by rw [ot_sum, if_pos (ot_cmp_eq.mp h27), ea]; rfl)
        · refine jv_iinc3N dX3_unlikeTold_30 rfl ?_
          refine jv_iinc4N dX3_unlikeTold_33 rfl ?_
          refine jv_goto dX3_unlikeTold_36 (tgt := 5) (by decide) ?_
          exact ih (i + 1) _ (by omega) (by omega) (by rw [ot_sum, if_neg (fun z => h27 (ot_cmp_eq.mpr z)), ea])
  refine jv_iconst dX3_unlikeTold_0 jv_c_iconst_0 ?_
  refine jv_istore3 dX3_unlikeTold_1 rfl ?_
  refine jv_iconst dX3_unlikeTold_2 jv_c_iconst_0 ?_
  refine jv_istore4 dX3_unlikeTold_3 rfl ?_
  exact loop (Y 10 0 + 1) 0 0 (by omega) (by omega) rfl
set_option maxRecDepth 20000 in
theorem ot_bitsOfM {G : jv_Gr} {I : jv_I} {J : jv_J} {y : Nat} {Y : ot_Y} (hG : ot_YG G y) (hR : ot_YR I y Y) (hW : ot_YW Y) {k t : Nat} (hk : k < Y 10 1) (ht : t < 5) : jv_C 4 mX3_bitsOfSide [.ref y, .int (nI k), .int (nI t)] G I J (some (.int (ot_bitsOf Y k t))) G I J := by
  refine jv_enter okX3_bitsOfSide (L := [.ref y, .int (nI k), .int (nI t), .null, .null]) rfl (Nat.le_of_ble_eq_true rfl) ?_
  have bn := yw_n hW
  have bc := yw_c hW
  have bw := yw_w hW
  have loop : ∀ (n i : Nat) (acc : Int32), Y 10 0 + 1 ≤ i + n → i ≤ Y 10 0 → acc = ot_bits (fun c => decide (ot_sideOf Y k c = t)) i → jv_V 4 mX3_bitsOfSide 5 [.ref y, .int (nI k), .int (nI t), .int acc, .int (nI i)] [] G I J (some (.int (ot_bitsOf Y k t))) G I J := by
    intro n
    induction n with
    | zero => intro i acc h1 h2; omega
    | succ n ih =>
      intro i acc h1 h2 ea
      refine jv_iload4 dX3_bitsOfSide_5 ?_
      refine jv_aload0 dX3_bitsOfSide_7 ?_
      refine jv_getI dX3_bitsOfSide_8 flX3_9 rfl (yk hG) (yi_children hR) ?_
      refine jv_icmp_geN dX3_bitsOfSide_11 (tgt := 38) (by decide) (by omega) (by omega) (fun hc11 => ?_) (fun hc11 => ?_)
      · refine jv_iload3 dX3_bitsOfSide_38 ?_
        exact jv_iret dX3_bitsOfSide_39 rfl rfl (by rw [ea, show i = Y 10 0 by omega]; rfl) rfl rfl
      · refine jv_aload0 dX3_bitsOfSide_14 ?_
        refine jv_iload1 dX3_bitsOfSide_15 ?_
        refine jv_iload4 dX3_bitsOfSide_16 ?_
        refine jv_v21 dX3_bitsOfSide_18 okX3_sideOf inX3_sideOf seX3_sideOf mlX3_112 (ci := 3) (T := TX3) (N := 15) rfl (yk hG) (ot_sideOfM hG hR hW hk (by omega)) (by decide) (Nat.le_of_ble_eq_true rfl) ?_
        refine jv_iload2 dX3_bitsOfSide_21 ?_
        refine jv_icmp_neN dX3_bitsOfSide_22 (tgt := 32) (by decide) (by have := ot_side_5 hW hk (Y 2 i); unfold ot_sideOf; omega) (by omega) (fun h22 => ?_) (fun h22 => ?_)
        · refine jv_iinc4N dX3_bitsOfSide_32 rfl ?_
          refine jv_goto dX3_bitsOfSide_35 (tgt := 5) (by decide) ?_
          exact ih (i + 1) _ (by omega) (by omega) (by rw [ot_bits, if_neg (by simpa using h22), ea])
        · refine jv_iload3 dX3_bitsOfSide_25 ?_
          refine jv_iconst dX3_bitsOfSide_26 jv_c_iconst_1 ?_
          refine jv_iload4 dX3_bitsOfSide_27 ?_
          refine jv_ishl dX3_bitsOfSide_29 ?_
          refine jv_ior dX3_bitsOfSide_30 ?_
          refine jv_istore3 dX3_bitsOfSide_31 rfl ?_
          refine jv_iinc4N dX3_bitsOfSide_32 rfl ?_
          refine jv_goto dX3_bitsOfSide_35 (tgt := 5) (by decide) ?_
          exact ih (i + 1) _ (by omega) (by omega) (by rw [ot_bits, if_pos (by simpa using h22), ea])
  refine jv_iconst dX3_bitsOfSide_0 jv_c_iconst_0 ?_
  refine jv_istore3 dX3_bitsOfSide_1 rfl ?_
  refine jv_iconst dX3_bitsOfSide_2 jv_c_iconst_0 ?_
  refine jv_istore4 dX3_bitsOfSide_3 rfl ?_
  exact loop (Y 10 0 + 1) 0 (nI 0) (by omega) (by omega) rfl
theorem ot_maxI {f : Nat → Nat} {b m n : Nat} (hb : b ≤ m) (hf : ∀ i, f i ≤ m) (hm : m < 2 ^ 31) : (if nI (ot_max f b n) < nI (f n) then nI (f n) else nI (ot_max f b n)) = nI (ot_max f b (n + 1)) := by
  have h1 := ot_max_le hb hf n
  have h2 := hf n
  rw [ot_max]
  by_cases h : ot_max f b n < f n
  · rw [if_pos (nI_lt h (by omega)), if_pos h]
  · rw [if_neg (nI_nlt (by omega) (by omega)), if_neg h]
theorem ot_minI {f : Nat → Nat} {b m n : Nat} (hb : b ≤ m) (hf : ∀ i, f i ≤ m) (hm : m < 2 ^ 31) : (if nI (f n) < nI (ot_min f b n) then nI (f n) else nI (ot_min f b n)) = nI (ot_min f b (n + 1)) := by
  have h1 := ot_min_le (f := f) (b := b) n
  have h2 := hf n
  rw [ot_min]
  by_cases h : f n < ot_min f b n
  · rw [if_pos (nI_lt h (by omega)), if_pos h]
  · rw [if_neg (nI_nlt (by omega) (by omega)), if_neg h]
set_option maxRecDepth 20000 in
theorem ot_evenM {G : jv_Gr} {I : jv_I} {J : jv_J} {y : Nat} {Y : ot_Y} (hG : ot_YG G y) (hR : ot_YR I y Y) (hW : ot_YW Y) {k : Nat} (hk : k < Y 10 1) : jv_C 5 mX3_unevenness [.ref y, .int (nI k)] G I J (some (.int (nI (ot_even Y k)))) G I J := by
  refine jv_enter okX3_unevenness (L := [.ref y, .int (nI k), .null, .null, .null, .null]) rfl (Nat.le_of_ble_eq_true rfl) ?_
  have bn := yw_n hW
  have bc := yw_c hW
  have bw := yw_w hW
  have hq := yw_count hW hk
  have b1 : (ot_strongOf Y k 0) ≤ 40000 := ot_strongOf_le hW k 0
  have b2 : ∀ i, (fun t => ot_strongOf Y k (t + 1)) i ≤ 40000 := fun i => ot_strongOf_le hW k (i + 1)
  have loop : ∀ (n i : Nat) (ga la : Int32) (sv : Value), (Y 4 k - 1) + 1 ≤ i + n → i ≤ (Y 4 k - 1) → ga = nI (ot_max (fun t => ot_strongOf Y k (t + 1)) (ot_strongOf Y k 0) i) → la = nI (ot_min (fun t => ot_strongOf Y k (t + 1)) (ot_strongOf Y k 0) i) → jv_V 5 mX3_unevenness 12 [.ref y, .int (nI k), .int ga, .int la, .int (nI (i + 1)), sv] [] G I J (some (.int (nI (ot_even Y k)))) G I J := by
    intro n
    induction n with
    | zero => intro i ga la sv h1 h2; omega
    | succ n ih =>
      intro i ga la sv h1 h2 eg el
      refine jv_iload4 dX3_unevenness_12 ?_
      refine jv_aload0 dX3_unevenness_14 ?_
      refine jv_getR dX3_unevenness_15 flX3_34 rfl (yk hG) (yr_teams hG) ?_
      refine jv_iload1 dX3_unevenness_18 ?_
      refine jv_ialdN dX3_unevenness_19 (yk_teams hG) (by omega) (by decide) (ye_teams hR (by omega)) ?_
      refine jv_icmp_geN dX3_unevenness_20 (tgt := 52) (by decide) (by omega) (by omega) (fun h20 => ?_) (fun h20 => ?_)
      · refine jv_iload2 dX3_unevenness_52 ?_
        refine jv_iload3 dX3_unevenness_53 ?_
        subst eg
        subst el
        refine jv_isubN dX3_unevenness_54 (by have := ot_min_le (f := (fun t => ot_strongOf Y k (t + 1))) (b := (ot_strongOf Y k 0)) i; have := ot_max_ge (f := (fun t => ot_strongOf Y k (t + 1))) (b := (ot_strongOf Y k 0)) i; omega) ?_
        exact jv_iret dX3_unevenness_55 rfl rfl (by rw [show i = Y 4 k - 1 by omega]; rfl) rfl rfl
      · refine jv_aload0 dX3_unevenness_23 ?_
        refine jv_iload1 dX3_unevenness_24 ?_
        refine jv_iload4 dX3_unevenness_25 ?_
        refine jv_v21 dX3_unevenness_27 okX3_strongOfSide inX3_strongOfSide seX3_strongOfSide mlX3_115 (ci := 3) (T := TX3) (N := 15) rfl (yk hG) (ot_strongOfM hG hR hW hk (by omega)) (by decide) (Nat.le_of_ble_eq_true rfl) ?_
        subst eg
        subst el
        refine jv_istore5 dX3_unevenness_30 rfl ?_
        refine jv_iload2 dX3_unevenness_32 ?_
        refine jv_iload5 dX3_unevenness_33 ?_
        refine jv_mmax dX3_unevenness_35 mlX3_118 st_max ini_math co_max (Nat.le_of_ble_eq_true rfl) (by decide) ?_
        refine jv_istore2 dX3_unevenness_38 rfl ?_
        refine jv_iload3 dX3_unevenness_39 ?_
        refine jv_iload5 dX3_unevenness_40 ?_
        refine jv_mmin dX3_unevenness_42 mlX3_121 st_min ini_math co_min (Nat.le_of_ble_eq_true rfl) (by decide) ?_
        refine jv_istore3 dX3_unevenness_45 rfl ?_
        refine jv_iinc4N dX3_unevenness_46 rfl ?_
        refine jv_goto dX3_unevenness_49 (tgt := 12) (by decide) ?_
        rw [ot_maxI b1 b2 (by decide), ot_minI b1 b2 (by decide)]
        exact ih (i + 1) _ _ _ (by omega) (by omega) rfl rfl
  refine jv_aload0 dX3_unevenness_0 ?_
  refine jv_iload1 dX3_unevenness_1 ?_
  refine jv_iconst dX3_unevenness_2 jv_c_iconst_0 ?_
  refine jv_v21 dX3_unevenness_3 okX3_strongOfSide inX3_strongOfSide seX3_strongOfSide mlX3_115 (ci := 3) (T := TX3) (N := 15) rfl (yk hG) (ot_strongOfM hG hR hW hk (by omega)) (by decide) (Nat.le_of_ble_eq_true rfl) ?_
  refine jv_istore2 dX3_unevenness_6 rfl ?_
  refine jv_iload2 dX3_unevenness_7 ?_
  refine jv_istore3 dX3_unevenness_8 rfl ?_
  refine jv_iconst dX3_unevenness_9 jv_c_iconst_1 ?_
  refine jv_istore4 dX3_unevenness_10 rfl ?_
  exact loop (Y 4 k - 1 + 1) 0 _ _ _ (by omega) (by omega) rfl rfl
theorem ot_absI {a b : Nat} (ha : a < 2 ^ 30) (hb : b < 2 ^ 30) : (if 0 ≤ nI a - nI b then nI a - nI b else 0 - (nI a - nI b)) = nI (ot_dist a b) := by
  have e := pk_sub_toInt ha hb
  unfold ot_dist
  by_cases h : a ≤ b
  · rw [if_pos h]
    by_cases h2 : a = b
    · subst h2
      rw [pk_sub (Nat.le_refl a), Nat.sub_self, if_pos (show (0 : Int32) ≤ nI 0 by decide)]
    · rw [if_neg (by intro q; have := Int32.le_iff_toInt_le.mp q; rw [e] at this; simp at this; omega), ← pk_sub h]
      simp
  · rw [if_neg h, if_pos (by rw [Int32.le_iff_toInt_le, e]; simp; omega), pk_sub (by omega)]
theorem ot_dist_le {a b m : Nat} (ha : a ≤ m) (hb : b ≤ m) : ot_dist a b ≤ m := by unfold ot_dist; split <;> omega
set_option maxRecDepth 20000 in
theorem ot_inReachM {G : jv_Gr} {I : jv_I} {J : jv_J} {y : Nat} {Y : ot_Y} (hG : ot_YG G y) (hR : ot_YR I y Y) (hW : ot_YW Y) {a b : Nat} (ha : a < Y 10 0) (hb : b < Y 10 0) : jv_C 1 mX3_inReach [.ref y, .int (nI a), .int (nI b)] G I J (some (.int (jv_b (ot_dist (Y 2 a) (Y 2 b) ≤ Y 1 a ∧ ot_dist (Y 2 a) (Y 2 b) ≤ Y 1 b)))) G I J := by
  refine jv_enter okX3_inReach (L := [.ref y, .int (nI a), .int (nI b), .null]) rfl (Nat.le_of_ble_eq_true rfl) ?_
  have bn := yw_n hW
  have bc := yw_c hW
  have bw := yw_w hW
  have qa := yw_child hW ha
  have qb := yw_child hW hb
  have hd := ot_dist_le (a := Y 2 a) (b := Y 2 b) (m := 14) (by omega) (by omega)
  refine jv_aload0 dX3_inReach_0 ?_
  refine jv_getR dX3_inReach_1 flX3_22 rfl (yk hG) (yr_where hG) ?_
  refine jv_iload1 dX3_inReach_4 ?_
  refine jv_ialdN dX3_inReach_5 (yk_where hG) (by omega) (by decide) (ye_where hR (by omega)) ?_
  refine jv_aload0 dX3_inReach_6 ?_
  refine jv_getR dX3_inReach_7 flX3_22 rfl (yk hG) (yr_where hG) ?_
  refine jv_iload2 dX3_inReach_10 ?_
  refine jv_ialdN dX3_inReach_11 (yk_where hG) (by omega) (by decide) (ye_where hR (by omega)) ?_
  refine jv_isub dX3_inReach_12 ?_
  refine jv_mabs dX3_inReach_13 mlX3_82 st_abs ini_math co_abs (Nat.le_of_ble_eq_true rfl) (by decide) ?_
  rw [ot_absI (by omega) (by omega)]
  refine jv_istore3 dX3_inReach_16 rfl ?_
  refine jv_iload3 dX3_inReach_17 ?_
  refine jv_aload0 dX3_inReach_18 ?_
  refine jv_getR dX3_inReach_19 flX3_19 rfl (yk hG) (yr_step hG) ?_
  refine jv_iload1 dX3_inReach_22 ?_
  refine jv_ialdN dX3_inReach_23 (yk_step hG) (by omega) (by decide) (ye_step hR (by omega)) ?_
  refine jv_icmp_gtN dX3_inReach_24 (tgt := 41) (by decide) (by omega) (by omega) (fun h24 => ?_) (fun h24 => ?_)
  · refine jv_iconst dX3_inReach_41 jv_c_iconst_0 ?_
    exact jv_iret dX3_inReach_42 rfl (by decide) (ot_b0 (by omega)) rfl rfl
  · refine jv_iload3 dX3_inReach_27 ?_
    refine jv_aload0 dX3_inReach_28 ?_
    refine jv_getR dX3_inReach_29 flX3_19 rfl (yk hG) (yr_step hG) ?_
    refine jv_iload2 dX3_inReach_32 ?_
    refine jv_ialdN dX3_inReach_33 (yk_step hG) (by omega) (by decide) (ye_step hR (by omega)) ?_
    refine jv_icmp_gtN dX3_inReach_34 (tgt := 41) (by decide) (by omega) (by omega) (fun h34 => ?_) (fun h34 => ?_)
    · refine jv_iconst dX3_inReach_41 jv_c_iconst_0 ?_
      exact jv_iret dX3_inReach_42 rfl (by decide) (ot_b0 (by omega)) rfl rfl
    · refine jv_iconst dX3_inReach_37 jv_c_iconst_1 ?_
      refine jv_goto dX3_inReach_38 (tgt := 42) (by decide) ?_
      exact jv_iret dX3_inReach_42 rfl (by decide) (ot_b1 ⟨by omega, by omega⟩) rfl rfl
