/-! ===== the yard's state by numbers: Y 0 strong, 1 step, 2 place, 3 kind, 4 by, 5 slip, 6 first, 7 second, 8 together, 9 worth; Y 10 0 children, 10 1 counts, 10 2 wishes, 10 3 seed ===== -/
abbrev ot_Y : Type := Nat → Nat → Nat
def ot_YW (Y : ot_Y) : Prop := (Y 10 0 ≤ 14 ∧ Y 10 1 ≤ 6 ∧ Y 10 2 ≤ 20) ∧ (∀ c, c < Y 10 0 → 1 ≤ Y 0 c ∧ Y 0 c ≤ 99 ∧ Y 1 c ≤ 9 ∧ Y 2 c < Y 10 0) ∧ (∀ c e, c < Y 10 0 → e < Y 10 0 → Y 2 c = Y 2 e → c = e) ∧ (∀ k, k < Y 10 1 → Y 3 k ≤ 5 ∧ 2 ≤ Y 4 k ∧ Y 4 k ≤ 5 ∧ Y 5 k ≤ 13) ∧ (∀ i, i < Y 10 2 → Y 6 i < Y 10 0 ∧ Y 7 i < Y 10 0 ∧ Y 6 i ≠ Y 7 i ∧ Y 8 i ≤ 1 ∧ 1 ≤ Y 9 i ∧ Y 9 i ≤ 99)
/-- the component's Yard at the cell y -/
def ot_ylen (j : Nat) : Nat := match j with
  | 0 => 14
  | 1 => 14
  | 2 => 14
  | 3 => 14
  | 4 => 6
  | 5 => 6
  | 6 => 6
  | _ => 20
def ot_yfld (j : Nat) : Nat := match j with
  | 0 => 1
  | 1 => 2
  | 2 => 3
  | 3 => 4
  | 4 => 6
  | 5 => 7
  | 6 => 8
  | 7 => 10
  | 8 => 11
  | 9 => 12
  | _ => 13
def ot_YG (G : jv_Gr) (y : Nat) : Prop := jv_k G y = (13, 0) ∧ (∀ j, j < 11 → jv_k G (y + (j + 1)) = (0, ot_ylen j)) ∧ (∀ j, j < 11 → jv_r G y (ot_yfld j) = y + (j + 1))
def ot_YR (I : jv_I) (y : Nat) (Y : ot_Y) : Prop :=
  (I y 0 = nI (Y 10 0) ∧ I y 5 = nI (Y 10 1) ∧ I y 9 = nI (Y 10 2) ∧ I y 14 = nI (Y 10 3)) ∧
  (∀ c, c < Y 10 0 → I (y + 1) c = nI (Y 0 c) ∧ I (y + 2) c = nI (Y 1 c) ∧ I (y + 3) c = nI (Y 2 c) ∧ I (y + 4) (Y 2 c) = nI c) ∧
  (∀ k, k < Y 10 1 → I (y + 5) k = nI (Y 3 k) ∧ I (y + 6) k = nI (Y 4 k) ∧ I (y + 7) k = nI (Y 5 k)) ∧
  (∀ i, i < Y 10 2 → I (y + 8) i = nI (Y 6 i) ∧ I (y + 9) i = nI (Y 7 i) ∧ I (y + 10) i = nI (Y 8 i) ∧ I (y + 11) i = nI (Y 9 i))
section OTY
variable {G : jv_Gr} {I : jv_I} {y : Nat} {Y : ot_Y}
theorem yk (h : ot_YG G y) : jv_k G y = (3 + 10, 0) := h.1
theorem yk_strong (h : ot_YG G y) : jv_k G (y + 1) = (0, 14) := h.2.1 0 (by decide)
theorem yk_step (h : ot_YG G y) : jv_k G (y + 2) = (0, 14) := h.2.1 1 (by decide)
theorem yk_where (h : ot_YG G y) : jv_k G (y + 3) = (0, 14) := h.2.1 2 (by decide)
theorem yk_who (h : ot_YG G y) : jv_k G (y + 4) = (0, 14) := h.2.1 3 (by decide)
theorem yk_kinds (h : ot_YG G y) : jv_k G (y + 5) = (0, 6) := h.2.1 4 (by decide)
theorem yk_teams (h : ot_YG G y) : jv_k G (y + 6) = (0, 6) := h.2.1 5 (by decide)
theorem yk_slips (h : ot_YG G y) : jv_k G (y + 7) = (0, 6) := h.2.1 6 (by decide)
theorem yk_firsts (h : ot_YG G y) : jv_k G (y + 8) = (0, 20) := h.2.1 7 (by decide)
theorem yk_seconds (h : ot_YG G y) : jv_k G (y + 9) = (0, 20) := h.2.1 8 (by decide)
theorem yk_together (h : ot_YG G y) : jv_k G (y + 10) = (0, 20) := h.2.1 9 (by decide)
theorem yk_worths (h : ot_YG G y) : jv_k G (y + 11) = (0, 20) := h.2.1 10 (by decide)
theorem yr_strong (h : ot_YG G y) : jv_r G y 1 = y + 1 := h.2.2 0 (by decide)
theorem yr_step (h : ot_YG G y) : jv_r G y 2 = y + 2 := h.2.2 1 (by decide)
theorem yr_where (h : ot_YG G y) : jv_r G y 3 = y + 3 := h.2.2 2 (by decide)
theorem yr_who (h : ot_YG G y) : jv_r G y 4 = y + 4 := h.2.2 3 (by decide)
theorem yr_kinds (h : ot_YG G y) : jv_r G y 6 = y + 5 := h.2.2 4 (by decide)
theorem yr_teams (h : ot_YG G y) : jv_r G y 7 = y + 6 := h.2.2 5 (by decide)
theorem yr_slips (h : ot_YG G y) : jv_r G y 8 = y + 7 := h.2.2 6 (by decide)
theorem yr_firsts (h : ot_YG G y) : jv_r G y 10 = y + 8 := h.2.2 7 (by decide)
theorem yr_seconds (h : ot_YG G y) : jv_r G y 11 = y + 9 := h.2.2 8 (by decide)
theorem yr_together (h : ot_YG G y) : jv_r G y 12 = y + 10 := h.2.2 9 (by decide)
theorem yr_worths (h : ot_YG G y) : jv_r G y 13 = y + 11 := h.2.2 10 (by decide)
theorem yi_children (h : ot_YR I y Y) : I y 0 = nI (Y 10 0) := h.1.1
theorem yi_counts (h : ot_YR I y Y) : I y 5 = nI (Y 10 1) := h.1.2.1
theorem yi_wishes (h : ot_YR I y Y) : I y 9 = nI (Y 10 2) := h.1.2.2.1
theorem yi_seed (h : ot_YR I y Y) : I y 14 = nI (Y 10 3) := h.1.2.2.2
theorem ye_strong (h : ot_YR I y Y) {c : Nat} (hc : c < Y 10 0) : I (y + 1) c = nI (Y 0 c) := (h.2.1 c hc).1
theorem ye_step (h : ot_YR I y Y) {c : Nat} (hc : c < Y 10 0) : I (y + 2) c = nI (Y 1 c) := (h.2.1 c hc).2.1
theorem ye_where (h : ot_YR I y Y) {c : Nat} (hc : c < Y 10 0) : I (y + 3) c = nI (Y 2 c) := (h.2.1 c hc).2.2.1
theorem ye_who (h : ot_YR I y Y) {c : Nat} (hc : c < Y 10 0) : I (y + 4) (Y 2 c) = nI c := (h.2.1 c hc).2.2.2
theorem ye_kinds (h : ot_YR I y Y) {c : Nat} (hc : c < Y 10 1) : I (y + 5) c = nI (Y 3 c) := (h.2.2.1 c hc).1
theorem ye_teams (h : ot_YR I y Y) {c : Nat} (hc : c < Y 10 1) : I (y + 6) c = nI (Y 4 c) := (h.2.2.1 c hc).2.1
theorem ye_slips (h : ot_YR I y Y) {c : Nat} (hc : c < Y 10 1) : I (y + 7) c = nI (Y 5 c) := (h.2.2.1 c hc).2.2
theorem ye_firsts (h : ot_YR I y Y) {c : Nat} (hc : c < Y 10 2) : I (y + 8) c = nI (Y 6 c) := (h.2.2.2 c hc).1
theorem ye_seconds (h : ot_YR I y Y) {c : Nat} (hc : c < Y 10 2) : I (y + 9) c = nI (Y 7 c) := (h.2.2.2 c hc).2.1
theorem ye_together (h : ot_YR I y Y) {c : Nat} (hc : c < Y 10 2) : I (y + 10) c = nI (Y 8 c) := (h.2.2.2 c hc).2.2.1
theorem ye_worths (h : ot_YR I y Y) {c : Nat} (hc : c < Y 10 2) : I (y + 11) c = nI (Y 9 c) := (h.2.2.2 c hc).2.2.2
theorem yw_n (h : ot_YW Y) : Y 10 0 ≤ 14 := h.1.1
theorem yw_c (h : ot_YW Y) : Y 10 1 ≤ 6 := h.1.2.1
theorem yw_w (h : ot_YW Y) : Y 10 2 ≤ 20 := h.1.2.2
theorem yw_child (h : ot_YW Y) {c : Nat} (hc : c < Y 10 0) : 1 ≤ Y 0 c ∧ Y 0 c ≤ 99 ∧ Y 1 c ≤ 9 ∧ Y 2 c < Y 10 0 := h.2.1 c hc
theorem yw_inj (h : ot_YW Y) {c e : Nat} (hc : c < Y 10 0) (he : e < Y 10 0) (q : Y 2 c = Y 2 e) : c = e := h.2.2.1 c e hc he q
theorem yw_count (h : ot_YW Y) {k : Nat} (hk : k < Y 10 1) : Y 3 k ≤ 5 ∧ 2 ≤ Y 4 k ∧ Y 4 k ≤ 5 ∧ Y 5 k ≤ 13 := h.2.2.2.1 k hk
theorem yw_wish (h : ot_YW Y) {i : Nat} (hi : i < Y 10 2) : Y 6 i < Y 10 0 ∧ Y 7 i < Y 10 0 ∧ Y 6 i ≠ Y 7 i ∧ Y 8 i ≤ 1 ∧ 1 ≤ Y 9 i ∧ Y 9 i ≤ 99 := h.2.2.2.2 i hi
end OTY
/-! pure functions of the state -/
def ot_slipped (Y : ot_Y) (k p : Nat) : Nat := if 0 < Y 5 k ∧ Y 5 k ≤ p then p - 1 else p
/-- the TEAM of a PLACE by a COUNT -/
def ot_side (Y : ot_Y) (k p : Nat) : Nat :=
  if Y 3 k = 1 then (Y 10 0 - 1 - p) % Y 4 k
  else if Y 3 k = 2 then (if p % 2 = 0 then p / 2 else (Y 10 0 + 1) / 2 + p / 2) % Y 4 k
  else if Y 3 k = 3 then ot_slipped Y k p % Y 4 k
  else if Y 3 k = 4 then Y 4 k - 1 - (Y 10 0 - 1 - p) % Y 4 k
  else if Y 3 k = 5 then (ot_slipped Y k p + 1) % Y 4 k
  else p % Y 4 k
def ot_sideOf (Y : ot_Y) (k c : Nat) : Nat := ot_side Y k (Y 2 c)
def ot_met (Y : ot_Y) (k i : Nat) : Bool := decide (ot_sideOf Y k (Y 6 i) = ot_sideOf Y k (Y 7 i)) == decide (Y 8 i = 1)
def ot_sum (f : Nat → Nat) : Nat → Nat
  | 0 => 0
  | n + 1 => ot_sum f n + f n
theorem ot_sum_le {f : Nat → Nat} {b : Nat} : ∀ n, (∀ i, i < n → f i ≤ b) → ot_sum f n ≤ n * b
  | 0, _ => by simp [ot_sum]
  | n + 1, h => by
    have h1 := ot_sum_le n (fun i hi => h i (by omega))
    have h2 := h n (by omega)
    rw [ot_sum, Nat.succ_mul]
    omega
theorem ot_sum_cong {f g : Nat → Nat} : ∀ n, (∀ i, i < n → f i = g i) → ot_sum f n = ot_sum g n
  | 0, _ => rfl
  | n + 1, h => by
    rw [ot_sum, ot_sum, ot_sum_cong n (fun i hi => h i (by omega)), h n (by omega)]
def ot_value (Y : ot_Y) (k : Nat) : Nat := ot_sum (fun i => if ot_met Y k i = true then Y 9 i else 0) (Y 10 2)
theorem ot_side_lt {Y : ot_Y} (hW : ot_YW Y) {k : Nat} (hk : k < Y 10 1) (p : Nat) : ot_side Y k p < Y 4 k := by
  have h := yw_count hW hk
  unfold ot_side
  repeat' split
  all_goals first | exact Nat.mod_lt _ (by omega) | (have := Nat.mod_lt (Y 10 0 - 1 - p) (show Y 4 k > 0 by omega); omega)
theorem ot_side_5 {Y : ot_Y} (hW : ot_YW Y) {k : Nat} (hk : k < Y 10 1) (p : Nat) : ot_side Y k p < 5 := by
  have h := yw_count hW hk
  have h2 := ot_side_lt hW hk p
  omega
theorem ot_value_part {Y : ot_Y} (hW : ot_YW Y) (k : Nat) {n : Nat} (hn : n ≤ Y 10 2) : ot_sum (fun i => if ot_met Y k i = true then Y 9 i else 0) n ≤ 1980 := by
  have h1 : ot_sum (fun i => if ot_met Y k i = true then Y 9 i else 0) n ≤ n * 99 := ot_sum_le n (fun i hi => by
    have := yw_wish hW (show i < Y 10 2 by omega)
    show (if ot_met Y k i = true then Y 9 i else 0) ≤ 99
    split <;> omega)
  have h2 := yw_w hW
  omega
theorem ot_value_le {Y : ot_Y} (hW : ot_YW Y) (k : Nat) : ot_value Y k ≤ 1980 := ot_value_part hW k (Nat.le_refl _)
