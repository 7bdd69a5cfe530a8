/-! ===== who hangs together: sets as numbers ===== -/
def ot_sh (c : Nat) : Int32 := nI 1 <<< (nI c &&& 31)
def ot_bit (x : Int32) (j : Nat) : Bool := x.toBitVec.getLsbD j
theorem ot_bit_or (x y : Int32) (j : Nat) : ot_bit (x ||| y) j = (ot_bit x j || ot_bit y j) := by
  unfold ot_bit
  rw [Int32.toBitVec_or, BitVec.getLsbD_or]
theorem ot_sh_tw : ∀ c, c < 14 → (ot_sh c).toBitVec = BitVec.twoPow 32 c := by
  intro c hc
  have h : ∀ k : Fin 14, (ot_sh k.val).toBitVec = BitVec.twoPow 32 k.val := by decide
  exact h ⟨c, hc⟩
theorem ot_bit_sh {c : Nat} (hc : c < 14) (j : Nat) : ot_bit (ot_sh c) j = decide (j = c) := by
  unfold ot_bit
  rw [ot_sh_tw c hc, BitVec.getLsbD_twoPow]
  by_cases e : j = c
  · subst e; simp; omega
  · have : ¬ c = j := fun z => e z.symm
    simp [e, this]
theorem ot_bit_ext {x y : Int32} (h : ∀ j, ot_bit x j = ot_bit y j) : x = y := by
  have : x.toBitVec = y.toBitVec := BitVec.eq_of_getLsbD_eq (fun i _ => h i)
  exact Int32.toBitVec_inj.mp this
theorem ot_bit_0 (j : Nat) : ot_bit (nI 0) j = false := by
  unfold ot_bit
  show (0#32).getLsbD j = false
  simp
theorem ot_bit_and (x y : Int32) (j : Nat) : ot_bit (x &&& y) j = (ot_bit x j && ot_bit y j) := by
  unfold ot_bit
  rw [Int32.toBitVec_and, BitVec.getLsbD_and]
theorem ot_two_bit (x : Int32) {a b : Nat} (ha : a < 14) (hb : b < 14) : x &&& (ot_sh a ||| ot_sh b) = 0 ↔ ¬ (ot_bit x a = true ∨ ot_bit x b = true) := by
  constructor
  · intro h hq
    have h2 : ∀ j, (ot_bit x j && (decide (j = a) || decide (j = b))) = false := fun j => by
      have : ot_bit (x &&& (ot_sh a ||| ot_sh b)) j = ot_bit 0 j := by rw [h]
      rw [ot_bit_and, ot_bit_or, ot_bit_sh ha, ot_bit_sh hb] at this
      rw [this]; exact ot_bit_0 j
    cases hq with
    | inl hq => have := h2 a; simp [hq] at this
    | inr hq => have := h2 b; simp [hq] at this
  · intro h
    refine ot_bit_ext (fun j => ?_)
    rw [ot_bit_and, ot_bit_or, ot_bit_sh ha, ot_bit_sh hb]
    show _ = ot_bit (nI 0) j
    rw [ot_bit_0]
    by_cases e1 : j = a
    · subst e1
      have : ot_bit x j = false := by
        cases hx : ot_bit x j
        · rfl
        · exact absurd (.inl hx) h
      simp [this]
    · by_cases e2 : j = b
      · subst e2
        have : ot_bit x j = false := by
          cases hx : ot_bit x j
          · rfl
          · exact absurd (.inr hx) h
        simp [this]
      · simp [e1, e2]
theorem ot_shr_tw (x : Int32) : ∀ c, c < 14 → (x >>> (nI c &&& 31)).toBitVec = x.toBitVec.sshiftRight c := by
  intro c hc
  have h : ∀ k : Fin 14, ((nI k.val &&& 31).toBitVec.smod 32).toNat = k.val := by decide
  rw [Int32.toBitVec_shiftRight, BitVec.sshiftRight', h ⟨c, hc⟩]
theorem ot_has_bit (x : Int32) {c : Nat} (hc : c < 14) : (x >>> (nI c &&& 31)) &&& nI 1 = if ot_bit x c = true then nI 1 else nI 0 := by
  refine Int32.toBitVec_inj.mp ?_
  rw [Int32.toBitVec_and, ot_shr_tw x c hc]
  have e : ((x.toBitVec.sshiftRight c).getLsbD 0) = ot_bit x c := by
    unfold ot_bit
    rw [BitVec.getLsbD_sshiftRight]
    simp; omega
  show _ &&& 1#32 = _
  rw [BitVec.and_one_eq_setWidth_ofBool_getLsbD, e]
  cases ot_bit x c <;> decide
/-- one wish, one round, some rounds -/
def ot_fs (Y : ot_Y) (i : Nat) (x : Int32) : Int32 := if Y 8 i = 1 ∧ (ot_bit x (Y 6 i) = true ∨ ot_bit x (Y 7 i) = true) then x ||| (ot_sh (Y 6 i) ||| ot_sh (Y 7 i)) else x
def ot_frr (Y : ot_Y) : Nat → Int32 → Int32
  | 0, x => x
  | i + 1, x => ot_fs Y i (ot_frr Y i x)
def ot_fx (Y : ot_Y) : Nat → Int32 → Int32
  | 0, x => x
  | r + 1, x => ot_frr Y (Y 10 2) (ot_fx Y r x)
def ot_friends (Y : ot_Y) (c : Nat) : Int32 := ot_fx Y (Y 10 0) (ot_sh c)
/-- closed under what the wishes tie together -/
def ot_shut (Y : ot_Y) (x : Int32) : Prop := ∀ i, i < Y 10 2 → Y 8 i = 1 → (ot_bit x (Y 6 i) = true ∨ ot_bit x (Y 7 i) = true) → ot_bit x (Y 6 i) = true ∧ ot_bit x (Y 7 i) = true
def ot_subs (x y : Int32) : Prop := ∀ j, ot_bit x j = true → ot_bit y j = true
theorem ot_fs_up (Y : ot_Y) (i : Nat) (x : Int32) : ot_subs x (ot_fs Y i x) := fun j h => by
  unfold ot_fs
  split
  · rw [ot_bit_or, h]; rfl
  · exact h
theorem ot_frr_up (Y : ot_Y) (x : Int32) : ∀ m, ot_subs x (ot_frr Y m x)
  | 0 => fun _ h => h
  | m + 1 => fun j h => ot_fs_up Y m _ j (ot_frr_up Y x m j h)
theorem ot_fx_up (Y : ot_Y) (x : Int32) : ∀ r, ot_subs x (ot_fx Y r x)
  | 0 => fun _ h => h
  | r + 1 => fun j h => ot_frr_up Y _ _ j (ot_fx_up Y x r j h)
def ot_tied (Y : ot_Y) : Prop := Y 10 0 ≤ 14 ∧ ∀ i, i < Y 10 2 → Y 6 i < Y 10 0 ∧ Y 7 i < Y 10 0
theorem ot_fs_in {Y : ot_Y} (hT : ot_tied Y) {i : Nat} (hi : i < Y 10 2) {x y : Int32} (hy : ot_shut Y y) (h : ot_subs x y) : ot_subs (ot_fs Y i x) y := fun j hj => by
  unfold ot_fs at hj
  have ht := hT.2 i hi
  have h14 := hT.1
  split at hj
  · rename_i hq
    have hz := hy i hi hq.1 (hq.2.elim (fun z => .inl (h _ z)) (fun z => .inr (h _ z)))
    rw [ot_bit_or, ot_bit_or, ot_bit_sh (by omega), ot_bit_sh (by omega)] at hj
    simp only [Bool.or_eq_true, decide_eq_true_eq] at hj
    rcases hj with hj | hj | hj
    · exact h j hj
    · rw [hj]; exact hz.1
    · rw [hj]; exact hz.2
  · exact h j hj
theorem ot_frr_in {Y : ot_Y} (hT : ot_tied Y) {x y : Int32} (hy : ot_shut Y y) (h : ot_subs x y) : ∀ m, m ≤ Y 10 2 → ot_subs (ot_frr Y m x) y
  | 0, _ => h
  | m + 1, hm => ot_fs_in hT (by omega) hy (ot_frr_in hT hy h m (by omega))
theorem ot_fx_in {Y : ot_Y} (hT : ot_tied Y) {x y : Int32} (hy : ot_shut Y y) (h : ot_subs x y) : ∀ r, ot_subs (ot_fx Y r x) y
  | 0 => h
  | r + 1 => ot_frr_in hT hy (ot_fx_in hT hy h r) _ (Nat.le_refl _)
theorem ot_subs_eq {x y : Int32} (h1 : ot_subs x y) (h2 : ot_subs y x) : x = y := ot_bit_ext (fun j => by
  cases hx : ot_bit x j <;> cases hy : ot_bit y j
  · rfl
  · exact absurd (h2 j hy) (by rw [hx]; decide)
  · exact absurd (h1 j hx) (by rw [hy]; decide)
  · rfl)
theorem ot_fs_sub {Y : ot_Y} {i : Nat} {x : Int32} {m : Nat} (hi : i < m) (h : ot_frr Y m x = x) : ot_fs Y i x = x := by
  have h1 : ∀ k, k ≤ m → ot_frr Y k x = x := by
    have h2 : ∀ k, ∀ z, ot_subs (ot_frr Y k z) (ot_frr Y (k + 1) z) := fun k z => ot_fs_up Y k _
    have h3 : ∀ d k, ot_subs (ot_frr Y k x) (ot_frr Y (k + d) x) := by
      intro d
      induction d with
      | zero => intro k j hj; exact hj
      | succ d ih => intro k j hj; exact h2 _ _ j (ih k j hj)
    intro k hk
    refine ot_subs_eq (fun j hj => ?_) (ot_frr_up Y x k)
    have := h3 (m - k) k j hj
    rw [show k + (m - k) = m by omega, h] at this
    exact this
  have h4 := h1 (i + 1) (by omega)
  rw [ot_frr, h1 i (by omega)] at h4
  exact h4
theorem ot_shut_of {Y : ot_Y} (hT : ot_tied Y) {x : Int32} (h : ot_frr Y (Y 10 2) x = x) : ot_shut Y x := fun i hi h8 hq => by
  have h1 := ot_fs_sub hi h
  have ht := hT.2 i hi
  have h14 := hT.1
  unfold ot_fs at h1
  rw [if_pos ⟨h8, hq⟩] at h1
  rw [← h1]
  simp only [ot_bit_or, ot_bit_sh (show Y 6 i < 14 by omega), ot_bit_sh (show Y 7 i < 14 by omega)]
  simp
theorem ot_sum_lt {f g : Nat → Nat} : ∀ n, (∀ j, j < n → f j ≤ g j) → (∃ j, j < n ∧ f j < g j) → ot_sum f n < ot_sum g n
  | 0, _, h => by obtain ⟨j, h, _⟩ := h; omega
  | n + 1, h, hx => by
    obtain ⟨j, hj, hl⟩ := hx
    have hn := h n (by omega)
    have hle : ∀ m, m ≤ n → ot_sum f m ≤ ot_sum g m := by
      intro m
      induction m with
      | zero => intro _; exact Nat.le_refl _
      | succ m ih => intro hm; have := ih (by omega); have := h m (by omega); unfold ot_sum; omega
    unfold ot_sum
    by_cases e : j = n
    · subst e; have := hle j (Nat.le_refl _); omega
    · have := ot_sum_lt n (fun k hk => h k (by omega)) ⟨j, by omega, hl⟩
      omega
def ot_cnt (n : Nat) (x : Int32) : Nat := ot_sum (fun j => if ot_bit x j = true then 1 else 0) n
theorem ot_cnt_le (n : Nat) (x : Int32) : ot_cnt n x ≤ n := by
  unfold ot_cnt
  induction n with
  | zero => exact Nat.le_refl _
  | succ n ih => unfold ot_sum; split <;> omega
theorem ot_cnt_lt {n : Nat} {x y : Int32} (h : ot_subs x y) (hy : ∀ j, ot_bit y j = true → j < n) (hne : x ≠ y) : ot_cnt n x < ot_cnt n y := by
  refine ot_sum_lt n (fun j _ => ?_) ?_
  · by_cases hx : ot_bit x j = true
    · rw [if_pos hx, if_pos (h j hx)]; exact Nat.le_refl _
    · rw [if_neg hx]; omega
  · refine Classical.byContradiction (fun hq => hne (ot_subs_eq h (fun j hj => ?_)))
    refine Classical.byContradiction (fun hx => hq ⟨j, hy j hj, ?_⟩)
    rw [if_neg hx, if_pos hj]; decide
theorem ot_fs_b {Y : ot_Y} (hT : ot_tied Y) {i : Nat} (hi : i < Y 10 2) {x : Int32} (hx : ∀ j, ot_bit x j = true → j < Y 10 0) : ∀ j, ot_bit (ot_fs Y i x) j = true → j < Y 10 0 := fun j hj => by
  unfold ot_fs at hj
  have ht := hT.2 i hi
  have h14 := hT.1
  split at hj
  · rw [ot_bit_or, ot_bit_or, ot_bit_sh (by omega), ot_bit_sh (by omega)] at hj
    simp only [Bool.or_eq_true, decide_eq_true_eq] at hj
    rcases hj with hj | hj | hj
    · exact hx j hj
    · omega
    · omega
  · exact hx j hj
theorem ot_frr_b {Y : ot_Y} (hT : ot_tied Y) {x : Int32} (hx : ∀ j, ot_bit x j = true → j < Y 10 0) : ∀ m, m ≤ Y 10 2 → ∀ j, ot_bit (ot_frr Y m x) j = true → j < Y 10 0
  | 0, _ => hx
  | m + 1, hm => ot_fs_b hT (by omega) (ot_frr_b hT hx m (by omega))
theorem ot_fx_b {Y : ot_Y} (hT : ot_tied Y) {x : Int32} (hx : ∀ j, ot_bit x j = true → j < Y 10 0) : ∀ r, ∀ j, ot_bit (ot_fx Y r x) j = true → j < Y 10 0
  | 0 => hx
  | r + 1 => ot_frr_b hT (ot_fx_b hT hx r) _ (Nat.le_refl _)
theorem ot_sh_b {c n : Nat} (hc : c < n) (hn : n ≤ 14) : ∀ j, ot_bit (ot_sh c) j = true → j < n := fun j hj => by
  rw [ot_bit_sh (by omega), decide_eq_true_eq] at hj
  omega
theorem ot_fx_stay {Y : ot_Y} {x : Int32} {r : Nat} (h : ot_frr Y (Y 10 2) (ot_fx Y r x) = ot_fx Y r x) : ∀ d, ot_fx Y (r + d) x = ot_fx Y r x
  | 0 => rfl
  | d + 1 => by rw [show r + (d + 1) = (r + d) + 1 by omega, ot_fx, ot_fx_stay h d]; exact h
theorem ot_fx_grow {Y : ot_Y} (hT : ot_tied Y) {c : Nat} (hc : c < Y 10 0) : ∀ r, ot_fx Y (r + 1) (ot_sh c) = ot_fx Y r (ot_sh c) ∨ r + 2 ≤ ot_cnt (Y 10 0) (ot_fx Y (r + 1) (ot_sh c)) := by
  have h14 := hT.1
  have hs := ot_sh_b hc h14
  have h1 : ∀ r, 1 ≤ ot_cnt (Y 10 0) (ot_fx Y r (ot_sh c)) := fun r => by
    have h0 : ot_sum (fun _ => 0) (Y 10 0) < ot_cnt (Y 10 0) (ot_fx Y r (ot_sh c)) := by
      refine ot_sum_lt _ (fun j _ => Nat.zero_le _) ⟨c, hc, ?_⟩
      rw [if_pos (ot_fx_up Y _ r c (by rw [ot_bit_sh (by omega)]; exact decide_eq_true rfl))]; decide
    omega
  intro r
  induction r with
  | zero =>
    by_cases e : ot_fx Y (0 + 1) (ot_sh c) = ot_fx Y 0 (ot_sh c)
    · exact .inl e
    · have h2 := ot_cnt_lt (n := Y 10 0) (ot_frr_up Y (ot_fx Y 0 (ot_sh c)) (Y 10 2)) (ot_fx_b hT hs (0 + 1)) (fun z => e z.symm)
      have h3 := h1 0
      exact .inr (Nat.lt_of_le_of_lt h3 h2)
  | succ r ih =>
    by_cases e : ot_fx Y (r + 1 + 1) (ot_sh c) = ot_fx Y (r + 1) (ot_sh c)
    · exact .inl e
    · cases ih with
      | inl ih => exact .inl (ot_fx_stay (r := r) ih 2 |>.trans (ot_fx_stay (r := r) ih 1).symm)
      | inr ih =>
        have h2 := ot_cnt_lt (n := Y 10 0) (ot_frr_up Y (ot_fx Y (r + 1) (ot_sh c)) (Y 10 2)) (ot_fx_b hT hs (r + 1 + 1)) (fun z => e z.symm)
        exact .inr (Nat.lt_of_le_of_lt ih h2)
theorem ot_fx_last {Y : ot_Y} (hT : ot_tied Y) {c : Nat} (hc : c < Y 10 0) : ot_frr Y (Y 10 2) (ot_fx Y (Y 10 0 - 1) (ot_sh c)) = ot_fx Y (Y 10 0 - 1) (ot_sh c) := by
  cases ot_fx_grow hT hc (Y 10 0 - 1) with
  | inl h => exact h
  | inr h =>
    have := ot_cnt_le (Y 10 0) (ot_fx Y (Y 10 0 - 1 + 1) (ot_sh c))
    omega
theorem ot_friends_of {Y : ot_Y} {c r : Nat} (hr : r ≤ Y 10 0) (h : ot_frr Y (Y 10 2) (ot_fx Y r (ot_sh c)) = ot_fx Y r (ot_sh c)) : ot_fx Y r (ot_sh c) = ot_friends Y c := by
  have := ot_fx_stay h (Y 10 0 - r)
  rw [show r + (Y 10 0 - r) = Y 10 0 by omega] at this
  exact this.symm
theorem ot_friends_shut {Y : ot_Y} (hT : ot_tied Y) {c : Nat} (hc : c < Y 10 0) : ot_shut Y (ot_friends Y c) := by
  rw [← ot_friends_of (r := Y 10 0 - 1) (by omega) (ot_fx_last hT hc)]
  exact ot_shut_of hT (ot_fx_last hT hc)
/-- all of the groups so far -/
def ot_seen (Y : ot_Y) : Nat → Int32
  | 0 => nI 0
  | c + 1 => ot_seen Y c ||| ot_friends Y c
theorem ot_seen_shut {Y : ot_Y} (hT : ot_tied Y) : ∀ c, c ≤ Y 10 0 → ot_shut Y (ot_seen Y c)
  | 0, _ => fun i _ _ hq => by unfold ot_seen at hq; rw [ot_bit_0, ot_bit_0] at hq; cases hq <;> contradiction
  | c + 1, hc => fun i hi h8 hq => by
    have h1 := ot_seen_shut hT c (by omega) i hi h8
    have h2 := ot_friends_shut hT (show c < Y 10 0 by omega) i hi h8
    unfold ot_seen at hq ⊢
    simp only [ot_bit_or, Bool.or_eq_true] at hq ⊢
    by_cases a1 : ot_bit (ot_seen Y c) (Y 6 i) = true ∨ ot_bit (ot_seen Y c) (Y 7 i) = true
    · exact ⟨.inl (h1 a1).1, .inl (h1 a1).2⟩
    · have a2 : ot_bit (ot_friends Y c) (Y 6 i) = true ∨ ot_bit (ot_friends Y c) (Y 7 i) = true := by
        rcases hq with (hq | hq) | (hq | hq)
        · exact absurd (.inl hq) a1
        · exact .inl hq
        · exact absurd (.inr hq) a1
        · exact .inr hq
      exact ⟨.inr (h2 a2).1, .inr (h2 a2).2⟩
theorem ot_seen_same {Y : ot_Y} (hT : ot_tied Y) {c : Nat} (hc : c < Y 10 0) (h : ot_bit (ot_seen Y c) c = true) : ot_seen Y (c + 1) = ot_seen Y c := by
  have h14 := hT.1
  refine ot_subs_eq (fun j hj => ?_) (fun j hj => by unfold ot_seen; rw [ot_bit_or, hj]; rfl)
  unfold ot_seen at hj
  rw [ot_bit_or, Bool.or_eq_true] at hj
  cases hj with
  | inl hj => exact hj
  | inr hj =>
    refine ot_fx_in hT (ot_seen_shut hT c (by omega)) (fun k hk => ?_) _ j hj
    rw [ot_bit_sh (by omega), decide_eq_true_eq] at hk
    rw [hk]; exact h
def ot_groups (Y : ot_Y) (n : Nat) : Nat := ot_sum (fun c => if ot_bit (ot_seen Y c) c = true then 0 else 1) n
def ot_odd (Y : ot_Y) (i : Nat) : Bool := decide (Y 8 i = 0) && ot_bit (ot_friends Y (Y 6 i)) (Y 7 i)
