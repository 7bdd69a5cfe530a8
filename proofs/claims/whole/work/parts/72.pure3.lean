/-! ===== changes: what can be had by one change or two ===== -/
def ot_any (f : Nat → Bool) : Nat → Bool
  | 0 => false
  | n + 1 => ot_any f n || f n
theorem ot_any_iff (f : Nat → Bool) : ∀ n, ot_any f n = true ↔ ∃ i, i < n ∧ f i = true
  | 0 => ⟨fun h => by simp [ot_any] at h, fun ⟨i, h, _⟩ => by omega⟩
  | n + 1 => by
    rw [ot_any, Bool.or_eq_true, ot_any_iff f n]
    refine ⟨fun h => ?_, fun ⟨i, h, h2⟩ => ?_⟩
    · cases h with
      | inl h => obtain ⟨i, h, h2⟩ := h; exact ⟨i, by omega, h2⟩
      | inr h => exact ⟨n, by omega, h⟩
    · by_cases e : i = n
      · exact .inr (e ▸ h2)
      · exact .inl ⟨i, by omega, h2⟩
def ot_R (Y : ot_Y) (v : Nat) : Nat → (Nat → Nat) → Prop
  | 0, s => v ≤ ot_valS Y s
  | n + 1, s => v ≤ ot_valS Y s ∨ ∃ a b, a < b ∧ b < Y 10 0 ∧ ot_R Y v n (ot_swapF s a b)
def ot_Rb (Y : ot_Y) (v : Nat) : Nat → (Nat → Nat) → Bool
  | 0, s => decide (v ≤ ot_valS Y s)
  | n + 1, s => decide (v ≤ ot_valS Y s) || ot_any (fun a => ot_any (fun b => decide (a < b) && ot_Rb Y v n (ot_swapF s a b)) (Y 10 0)) (Y 10 0)
theorem ot_Rb_iff (Y : ot_Y) (v : Nat) : ∀ n s, ot_Rb Y v n s = true ↔ ot_R Y v n s
  | 0, s => by unfold ot_Rb ot_R; exact decide_eq_true_iff
  | n + 1, s => by
    unfold ot_Rb ot_R
    rw [Bool.or_eq_true, decide_eq_true_iff, ot_any_iff]
    refine or_congr Iff.rfl ⟨fun ⟨a, _, h⟩ => ?_, fun ⟨a, b, h1, h2, h3⟩ => ⟨a, by omega, ?_⟩⟩
    · obtain ⟨b, hb, h⟩ := (ot_any_iff _ _).mp h
      rw [Bool.and_eq_true, decide_eq_true_iff] at h
      exact ⟨a, b, h.1, hb, (ot_Rb_iff Y v n _).mp h.2⟩
    · refine (ot_any_iff _ _).mpr ⟨b, h2, ?_⟩
      rw [Bool.and_eq_true, decide_eq_true_iff]
      exact ⟨h1, (ot_Rb_iff Y v n _).mpr h3⟩
/-- the same by the places themselves -/
def ot_RY (v k : Nat) : Nat → ot_Y → Prop
  | 0, Y => v ≤ ot_value Y k
  | n + 1, Y => v ≤ ot_value Y k ∨ ∃ a b, a < b ∧ b < Y 10 0 ∧ ot_RY v k n (ot_swap Y a b)
theorem ot_sideOf_swap (Y : ot_Y) (k a b : Nat) : ot_sideOf (ot_swap Y a b) k = ot_swapF (ot_sideOf Y k) a b := by
  funext c
  show ot_side Y k (ot_swapF (Y 2) a b c) = _
  unfold ot_swapF ot_sideOf
  split
  · rfl
  · split <;> rfl
theorem ot_R_swap (Y : ot_Y) (v p q : Nat) : ∀ n s, ot_R (ot_swap Y p q) v n s ↔ ot_R Y v n s
  | 0, s => Iff.rfl
  | n + 1, s => by
    unfold ot_R
    exact or_congr Iff.rfl ⟨fun ⟨a, b, h1, h2, h3⟩ => ⟨a, b, h1, h2, (ot_R_swap Y v p q n _).mp h3⟩, fun ⟨a, b, h1, h2, h3⟩ => ⟨a, b, h1, h2, (ot_R_swap Y v p q n _).mpr h3⟩⟩
theorem ot_RY_iff (v k : Nat) : ∀ n Y, ot_RY v k n Y ↔ ot_R Y v n (ot_sideOf Y k)
  | 0, Y => Iff.rfl
  | n + 1, Y => by
    unfold ot_RY ot_R
    refine or_congr Iff.rfl ⟨fun ⟨a, b, h1, h2, h3⟩ => ⟨a, b, h1, h2, ?_⟩, fun ⟨a, b, h1, h2, h3⟩ => ⟨a, b, h1, h2, ?_⟩⟩
    · have h4 := (ot_RY_iff v k n _).mp h3
      rw [ot_R_swap, ot_sideOf_swap] at h4
      exact h4
    · refine (ot_RY_iff v k n _).mpr ?_
      rw [ot_R_swap, ot_sideOf_swap]
      exact h3
theorem ot_swapF_eq {s : Nat → Nat} {a b : Nat} (h : s a = s b) : ot_swapF s a b = s := by
  funext c
  unfold ot_swapF
  split
  · rename_i e; rw [e, h]
  · split
    · rename_i e; rw [e, h]
    · rfl
/-- two changes, the second not behind the first: two others with the same end, in order -/
theorem ot_twos {a b c e : Nat} (h1 : a < b) (h2 : c < e) (h3 : c < a ∨ (c = a ∧ e < b)) (s : Nat → Nat) : ∃ p q x y, p < q ∧ x < y ∧ (p < x ∨ (p = x ∧ q < y)) ∧ q ≤ max b e ∧ y ≤ max b e ∧ ot_swapF (ot_swapF s a b) c e = ot_swapF (ot_swapF s p q) x y := by
  by_cases e1 : c = a
  · refine ⟨a, e, e, b, by omega, by omega, by omega, by omega, by omega, ?_⟩
    funext z
    unfold ot_swapF
    repeat' split
    all_goals first | rfl | omega | (subst_vars; first | rfl | omega)
  · by_cases e2 : e = a
    · refine ⟨c, a, c, b, by omega, by omega, by omega, by omega, by omega, ?_⟩
      funext z
      unfold ot_swapF
      repeat' split
      all_goals first | rfl | omega | (subst_vars; first | rfl | omega)
    · by_cases e3 : e = b
      · refine ⟨c, a, a, b, by omega, by omega, by omega, by omega, by omega, ?_⟩
        funext z
        unfold ot_swapF
        repeat' split
        all_goals first | rfl | omega | (subst_vars; first | rfl | omega)
      · refine ⟨c, e, a, b, by omega, by omega, by omega, by omega, by omega, ?_⟩
        funext z
        unfold ot_swapF
        repeat' split
        all_goals first | rfl | omega | (subst_vars; first | rfl | omega)
/-- the component's search: the second two behind the first, each of two teams -/
def ot_one (Y : ot_Y) (v f w : Nat) (s : Nat → Nat) : Prop := ∃ a b, ((a = f ∧ w ≤ b) ∨ (f < a ∧ a < b)) ∧ b < Y 10 0 ∧ s a ≠ s b ∧ v ≤ ot_valS Y (ot_swapF s a b)
def ot_two (Y : ot_Y) (v : Nat) (s : Nat → Nat) : Prop := ∃ a b, a < b ∧ b < Y 10 0 ∧ s a ≠ s b ∧ ot_one Y v a (b + 1) (ot_swapF s a b)
theorem ot_one_R {Y : ot_Y} {v : Nat} {s : Nat → Nat} (h : ot_Rb Y v 0 s = false) : ot_one Y v 0 1 s ↔ ot_Rb Y v 1 s = true := by
  have h0 : ¬ ot_R Y v 0 s := fun z => by rw [(ot_Rb_iff Y v 0 s).mpr z] at h; cases h
  rw [ot_Rb_iff]
  refine ⟨fun ⟨a, b, h1, h2, _, h3⟩ => .inr ⟨a, b, by omega, h2, h3⟩, fun z => ?_⟩
  cases z with
  | inl z => exact absurd z h0
  | inr z =>
    obtain ⟨a, b, h1, h2, h3⟩ := z
    refine ⟨a, b, by omega, h2, fun e => ?_, h3⟩
    rw [ot_swapF_eq e] at h3
    exact h0 h3
theorem ot_two_R {Y : ot_Y} {v : Nat} {s : Nat → Nat} (h : ot_Rb Y v 1 s = false) : ot_two Y v s ↔ ot_Rb Y v 2 s = true := by
  have h1 : ¬ ot_R Y v 1 s := fun z => by rw [(ot_Rb_iff Y v 1 s).mpr z] at h; cases h
  have h0 : ¬ ot_R Y v 0 s := fun z => h1 (.inl z)
  rw [ot_Rb_iff]
  have key : ∀ p q x y, p < q → x < y → q < Y 10 0 → y < Y 10 0 → (p < x ∨ (p = x ∧ q < y)) → v ≤ ot_valS Y (ot_swapF (ot_swapF s p q) x y) → ot_two Y v s := by
    intro p q x y a1 a2 a3 a4 a5 hv
    refine ⟨p, q, a1, a3, fun e => ?_, x, y, by omega, a4, fun e => ?_, hv⟩
    · rw [ot_swapF_eq e] at hv
      exact h1 (.inr ⟨x, y, a2, a4, hv⟩)
    · rw [ot_swapF_eq e] at hv
      exact h1 (.inr ⟨p, q, a1, a3, hv⟩)
  refine ⟨fun ⟨a, b, a1, a2, _, c, e, a3, a4, _, a5⟩ => .inr ⟨a, b, a1, a2, .inr ⟨c, e, by omega, a4, a5⟩⟩, fun z => ?_⟩
  cases z with
  | inl z => exact absurd z h0
  | inr z =>
    obtain ⟨a, b, a1, a2, z⟩ := z
    cases z with
    | inl z => exact absurd (.inr ⟨a, b, a1, a2, z⟩) h1
    | inr z =>
      obtain ⟨c, e, a3, a4, hv⟩ := z
      change v ≤ ot_valS Y (ot_swapF (ot_swapF s a b) c e) at hv
      by_cases b1 : a < c ∨ (a = c ∧ b < e)
      · exact key a b c e a1 a3 a2 a4 b1 hv
      · by_cases b2 : c < a ∨ (c = a ∧ e < b)
        · obtain ⟨p, q, x, y, c1, c2, c3, c4, c5, ce⟩ := ot_twos a1 a3 b2 s
          rw [ce] at hv
          exact key p q x y c1 c2 (by omega) (by omega) c3 hv
        · have e1 : c = a := by omega
          have e2 : e = b := by omega
          rw [e1, e2, ot_swapF_swapF] at hv
          exact absurd hv h0
theorem ot_valS_all (Y : ot_Y) (s : Nat → Nat) : ot_valS Y s ≤ ot_allWorths Y := by
  have h : ∀ n, ot_sum (fun i => if ot_metS Y s i = true then Y 9 i else 0) n ≤ ot_sum (fun i => Y 9 i) n := by
    intro n
    induction n with
    | zero => exact Nat.le_refl _
    | succ n ih =>
      unfold ot_sum
      have : (if ot_metS Y s n = true then Y 9 n else 0) ≤ Y 9 n := by split <;> omega
      omega
  exact h _
theorem ot_R_all (Y : ot_Y) (v : Nat) : ∀ n s, ot_R Y v n s → v ≤ ot_allWorths Y
  | 0, s, h => Nat.le_trans h (ot_valS_all Y s)
  | n + 1, s, h => by
    cases h with
    | inl h => exact Nat.le_trans h (ot_valS_all Y s)
    | inr h => obtain ⟨a, b, _, _, h⟩ := h; exact ot_R_all Y v n _ h
def ot_changes (Y : ot_Y) (v : Nat) (s : Nat → Nat) : Int32 := if ot_Rb Y v 0 s = true then 0 else if ot_Rb Y v 1 s = true then 1 else if ot_Rb Y v 2 s = true then 2 else -1
