/-! ===== yard: how a text is read ===== -/
def ot_kd (b : Nat) : Nat := if 97 ≤ b ∧ b ≤ 122 then 1 else if 48 ≤ b ∧ b ≤ 57 then 2 else if b = 59 then 3 else 4
def ot_scn (p : Nat → Bool) (n : Nat) : Nat → Nat → Nat
  | 0, i => i
  | f + 1, i => if i < n ∧ p i = true then ot_scn p n f (i + 1) else i
def ot_scan (p : Nat → Bool) (n i : Nat) : Nat := ot_scn p n (n - i) i
theorem ot_scan_go {p : Nat → Bool} {n i : Nat} (h : i < n) (hp : p i = true) : ot_scan p n i = ot_scan p n (i + 1) := by
  unfold ot_scan
  rw [show n - i = (n - (i + 1)) + 1 by omega, ot_scn, if_pos ⟨h, hp⟩]
theorem ot_scan_no {p : Nat → Bool} {n i : Nat} (h : ¬ (i < n ∧ p i = true)) : ot_scan p n i = i := by
  unfold ot_scan
  cases n - i with
  | zero => rfl
  | succ f => rw [ot_scn, if_neg h]
theorem ot_scn_ge (p : Nat → Bool) (n : Nat) : ∀ f i, i ≤ ot_scn p n f i
  | 0, i => Nat.le_refl _
  | f + 1, i => by
    rw [ot_scn]
    split
    · have := ot_scn_ge p n f (i + 1); omega
    · exact Nat.le_refl _
theorem ot_scn_le (p : Nat → Bool) (n : Nat) : ∀ f i, i ≤ n → ot_scn p n f i ≤ n
  | 0, i, h => h
  | f + 1, i, h => by
    rw [ot_scn]
    split
    · rename_i q; exact ot_scn_le p n f (i + 1) (by omega)
    · exact h
theorem ot_scan_ge (p : Nat → Bool) (n i : Nat) : i ≤ ot_scan p n i := ot_scn_ge p n _ i
theorem ot_scan_le (p : Nat → Bool) {n i : Nat} (h : i ≤ n) : ot_scan p n i ≤ n := ot_scn_le p n _ i h
theorem ot_scn_in (p : Nat → Bool) (n : Nat) : ∀ f i j, i ≤ j → j < ot_scn p n f i → j < n ∧ p j = true
  | 0, i, j, h, h2 => by rw [ot_scn] at h2; omega
  | f + 1, i, j, h, h2 => by
    rw [ot_scn] at h2
    split at h2
    · rename_i q
      by_cases e : i = j
      · rw [← e]; exact q
      · exact ot_scn_in p n f (i + 1) j (by omega) h2
    · omega
theorem ot_scan_in {p : Nat → Bool} {n i j : Nat} (h : i ≤ j) (h2 : j < ot_scan p n i) : j < n ∧ p j = true := ot_scn_in p n _ i j h h2
/-- the token behind e: where it starts, of which kind, where it ends -/
def ot_sp (t : Nat → Nat) : Nat → Bool := fun i => decide (t i = 32)
def ot_ki (t : Nat → Nat) (k : Nat) : Nat → Bool := fun i => decide (ot_kd (t i) = k)
def ot_ts (t : Nat → Nat) (n e : Nat) : Nat := ot_scan (ot_sp t) n e
def ot_tn (t : Nat → Nat) (n e : Nat) : Nat := if ot_ts t n e < n then ot_kd (t (ot_ts t n e)) else 0
def ot_te (t : Nat → Nat) (n e : Nat) : Nat := if ot_tn t n e = 1 ∨ ot_tn t n e = 2 then ot_scan (ot_ki t (ot_tn t n e)) n (ot_ts t n e) else if ot_tn t n e = 0 then ot_ts t n e else ot_ts t n e + 1
theorem ot_kd_pos (b : Nat) : 1 ≤ ot_kd b ∧ ot_kd b ≤ 4 := by
  unfold ot_kd
  repeat' split
  all_goals omega
theorem ot_tn_4 (t : Nat → Nat) (n e : Nat) : ot_tn t n e ≤ 4 := by
  unfold ot_tn
  split
  · exact (ot_kd_pos _).2
  · omega
theorem ot_ts_ge (t : Nat → Nat) (n e : Nat) : e ≤ ot_ts t n e := ot_scan_ge _ _ _
theorem ot_ts_le (t : Nat → Nat) {n e : Nat} (h : e ≤ n) : ot_ts t n e ≤ n := ot_scan_le _ h
theorem ot_te_ge (t : Nat → Nat) (n e : Nat) : ot_ts t n e ≤ ot_te t n e := by
  unfold ot_te
  split
  · exact ot_scan_ge _ _ _
  · split <;> omega
theorem ot_te_le (t : Nat → Nat) {n e : Nat} (h : e ≤ n) : ot_te t n e ≤ n := by
  have h1 := ot_ts_le t h
  unfold ot_te
  split
  · exact ot_scan_le _ h1
  · split
    · exact h1
    · rename_i q
      unfold ot_tn at q
      split at q
      · omega
      · exact absurd rfl q
theorem ot_te_gt (t : Nat → Nat) {n e : Nat} (h : ot_tn t n e ≠ 0) : ot_ts t n e < ot_te t n e := by
  have h1 : ot_ts t n e < n := by
    unfold ot_tn at h
    split at h
    · assumption
    · exact absurd rfl h
  unfold ot_te
  split
  · have : ot_ki t (ot_tn t n e) (ot_ts t n e) = true := by
      unfold ot_ki
      unfold ot_tn
      rw [if_pos h1]
      exact decide_eq_true rfl
    rw [ot_scan_go h1 this]
    have := ot_scan_ge (ot_ki t (ot_tn t n e)) n (ot_ts t n e + 1)
    omega
  · omega
/-- a number's worth -/
def ot_dec (t : Nat → Nat) (s : Nat) : Nat → Nat
  | 0 => 0
  | m + 1 => 10 * ot_dec t s m + t (s + m) - 48
def ot_fm (t : Nat → Nat) (s m : Nat) : Nat := if m ≤ 2 then ot_dec t s m else 1000
def ot_fg (t : Nat → Nat) (n e : Nat) : Nat := if ot_tn t n e = 2 then ot_fm t (ot_ts t n e) (ot_te t n e - ot_ts t n e) else 0
theorem ot_dig_of (t : Nat → Nat) {n e j : Nat} (h : ot_tn t n e = 2) (h1 : ot_ts t n e ≤ j) (h2 : j < ot_te t n e) : 48 ≤ t j ∧ t j ≤ 57 := by
  unfold ot_te at h2
  rw [if_pos (.inr h), h] at h2
  have := (ot_scan_in h1 h2).2
  unfold ot_ki ot_kd at this
  simp only [decide_eq_true_eq] at this
  split at this
  · omega
  · split at this
    · assumption
    · split at this <;> omega
theorem ot_dec_le {t : Nat → Nat} {s : Nat} : ∀ m, m ≤ 3 → (∀ j, j < m → t (s + j) ≤ 255) → ot_dec t s m ≤ 40000
  | 0, _, _ => Nat.zero_le _
  | 1, _, h => by have := h 0 (by omega); simp only [ot_dec]; omega
  | 2, _, h => by have := h 0 (by omega); have := h 1 (by omega); simp only [ot_dec]; omega
  | 3, _, h => by have := h 0 (by omega); have := h 1 (by omega); have := h 2 (by omega); simp only [ot_dec]; omega
  | m + 4, h, _ => by omega
/-- a word -/
def ot_eqw (t : Nat → Nat) (s k : Nat) : Nat → Bool
  | 0 => true
  | i + 1 => ot_eqw t s k i && decide (nI (t (s + i)) = (jv_byt.getD k []).getD i 0)
def ot_isW (t : Nat → Nat) (n e k : Nat) : Bool := decide (ot_tn t n e = 1) && decide (ot_te t n e - ot_ts t n e = jv_len.getD k 0) && ot_eqw t (ot_ts t n e) k (jv_len.getD k 0)
theorem ot_eqw_at {t : Nat → Nat} {s k i : Nat} : ∀ m, i < m → ot_eqw t s k m = true → nI (t (s + i)) = (jv_byt.getD k []).getD i 0
  | 0, h, _ => by omega
  | m + 1, h, h2 => by
    rw [ot_eqw, Bool.and_eq_true, decide_eq_true_eq] at h2
    by_cases e : i = m
    · rw [e]; exact h2.2
    · exact ot_eqw_at m (by omega) h2.1
theorem ot_eqw_no {t : Nat → Nat} {s k i : Nat} {m : Nat} (hi : i < m) (h : ¬ nI (t (s + i)) = (jv_byt.getD k []).getD i 0) : ¬ ot_eqw t s k m = true := fun z => h (ot_eqw_at m hi z)
theorem ot_word_one : ∀ k, k < 6 → ∀ k2, k2 < 6 → k ≠ k2 → jv_len.getD k 0 ≠ jv_len.getD k2 0 ∨ (0 < jv_len.getD k 0 ∧ (jv_byt.getD k []).getD 0 0 ≠ (jv_byt.getD k2 []).getD 0 0) ∨ (1 < jv_len.getD k 0 ∧ (jv_byt.getD k []).getD 1 0 ≠ (jv_byt.getD k2 []).getD 1 0) := by decide
theorem ot_isW_one {t : Nat → Nat} {n e k k2 : Nat} (hk : k < 6) (hk2 : k2 < 6) (h : ot_isW t n e k = true) (hne : k ≠ k2) : ¬ ot_isW t n e k2 = true := fun h2 => by
  unfold ot_isW at h h2
  simp only [Bool.and_eq_true, decide_eq_true_eq] at h h2
  have hl : jv_len.getD k 0 = jv_len.getD k2 0 := h.1.2.symm.trans h2.1.2
  rcases ot_word_one k hk k2 hk2 hne with z | z | z
  · exact z hl
  · exact z.2 ((ot_eqw_at _ z.1 h.2).symm.trans (ot_eqw_at _ (by omega) h2.2))
  · exact z.2 ((ot_eqw_at _ z.1 h.2).symm.trans (ot_eqw_at _ (by omega) h2.2))
/-- a statement: the yard behind it and where it ends, or where the fault is -/
def ot_numk (t : Nat → Nat) (n e lo hi : Nat) (f : Nat → Nat → Option ot_Y × Nat) : Option ot_Y × Nat := if ot_tn t n e = 2 ∧ lo ≤ ot_fg t n e ∧ ot_fg t n e < hi then f (ot_fg t n e) (ot_te t n e) else (none, ot_ts t n e)
def ot_stC (Y : ot_Y) (t : Nat → Nat) (n e : Nat) : Option ot_Y × Nat := ot_numk t n e 1 100 (fun a e2 => ot_numk t n e2 0 10 (fun b e3 => (some (ot_addChild Y a b), e3)))
def ot_stK (Y : ot_Y) (t : Nat → Nat) (n e : Nat) : Option ot_Y × Nat := ot_numk t n e 0 6 (fun a e2 => ot_numk t n e2 2 6 (fun b e3 => ot_numk t n e3 0 14 (fun c e4 => (some (ot_addCount Y a b c), e4))))
def ot_st2 (Y : ot_Y) (t : Nat → Nat) (n e : Nat) (f : Nat → Nat → Nat → Option ot_Y × Nat) : Option ot_Y × Nat := ot_numk t n e 0 (Y 10 0) (fun a e2 => ot_numk t n e2 0 (Y 10 0) (fun b e3 => if b = a then (none, ot_ts t n e2) else f a b e3))
def ot_stW (Y : ot_Y) (t : Nat → Nat) (n e g : Nat) : Option ot_Y × Nat := ot_st2 Y t n e (fun a b e3 => ot_numk t n e3 1 100 (fun w e4 => (some (ot_addWish Y a b g w), e4)))
def ot_stS (Y : ot_Y) (t : Nat → Nat) (n e : Nat) : Option ot_Y × Nat := ot_st2 Y t n e (fun a b e3 => (some (ot_swap Y a b), e3))
def ot_stM (Y : ot_Y) (t : Nat → Nat) (n e : Nat) : Option ot_Y × Nat := ot_numk t n e 0 (Y 10 0) (fun a e2 => ot_numk t n e2 0 (Y 10 0) (fun b e3 => (some (ot_move Y a b), e3)))
def ot_stm (Y : ot_Y) (t : Nat → Nat) (n e : Nat) : Option ot_Y × Nat :=
  if ot_isW t n e 0 = true then (if Y 10 0 < 14 then ot_stC Y t n (ot_te t n e) else (none, ot_ts t n e))
  else if ot_isW t n e 1 = true then (if Y 10 1 < 6 then ot_stK Y t n (ot_te t n e) else (none, ot_ts t n e))
  else if ot_isW t n e 2 = true then (if Y 10 2 < 20 then ot_stW Y t n (ot_te t n e) 1 else (none, ot_ts t n e))
  else if ot_isW t n e 3 = true then (if Y 10 2 < 20 then ot_stW Y t n (ot_te t n e) 0 else (none, ot_ts t n e))
  else if ot_isW t n e 4 = true then ot_stS Y t n (ot_te t n e)
  else if ot_isW t n e 5 = true then ot_stM Y t n (ot_te t n e)
  else (none, ot_ts t n e)
/-- what holds of a statement's end: the yard stays one, its counts don't get fewer, the end is behind e -/
def ot_stG (Y : ot_Y) (n e : Nat) (r : Option ot_Y × Nat) : Prop := r.2 ≤ n ∧ ∀ Y2, r.1 = some Y2 → ot_YW Y2 ∧ Y 10 1 ≤ Y2 10 1 ∧ e ≤ r.2
theorem ot_stG_none {Y : ot_Y} {n e : Nat} (t : Nat → Nat) {e2 : Nat} (h : e2 ≤ n) : ot_stG Y n e (none, ot_ts t n e2) := ⟨ot_ts_le t h, fun _ z => by cases z⟩
theorem ot_stG_num {Y : ot_Y} {t : Nat → Nat} {n e lo hi : Nat} {f : Nat → Nat → Option ot_Y × Nat} (he : e ≤ n) (h : ∀ a, lo ≤ a → a < hi → ot_stG Y n (ot_te t n e) (f a (ot_te t n e))) : ot_stG Y n e (ot_numk t n e lo hi f) := by
  unfold ot_numk
  split
  · rename_i q
    have := h _ q.2.1 q.2.2
    exact ⟨this.1, fun Y2 z => by
      have h2 := this.2 Y2 z
      have := ot_te_ge t n e
      have := ot_ts_ge t n e
      exact ⟨h2.1, h2.2.1, by omega⟩⟩
  · exact ot_stG_none t he
theorem ot_stm_G {Y : ot_Y} (hW : ot_YW Y) (t : Nat → Nat) {n e : Nat} (he : e ≤ n) : ot_stG Y n (e + 1) (ot_stm Y t n e) := by
  have h1 := ot_te_le t he
  have hw : ∀ k, ot_isW t n e k = true → e + 1 ≤ ot_te t n e := fun k hk => by
    unfold ot_isW at hk
    simp only [Bool.and_eq_true, decide_eq_true_eq] at hk
    have := ot_te_gt t (n := n) (e := e) (by omega)
    have := ot_ts_ge t n e
    omega
  have up : ∀ {r : Option ot_Y × Nat} k, ot_isW t n e k = true → ot_stG Y n (ot_te t n e) r → ot_stG Y n (e + 1) r := fun k hk h => ⟨h.1, fun Y2 z => ⟨(h.2 Y2 z).1, (h.2 Y2 z).2.1, Nat.le_trans (hw k hk) (h.2 Y2 z).2.2⟩⟩
  have fin : ∀ {Y2 : ot_Y} {e2 : Nat}, e2 ≤ n → ot_YW Y2 → Y 10 1 ≤ Y2 10 1 → ot_stG Y n e2 (some Y2, e2) := fun h2 h3 h4 => ⟨h2, fun Y3 z => by cases z; exact ⟨h3, h4, Nat.le_refl _⟩⟩
  have c1 : ∀ s u, (ot_addChild Y s u) 10 1 = Y 10 1 := fun s u => by simp [ot_addChild]
  have c2 : ∀ s u v, (ot_addCount Y s u v) 10 1 = Y 10 1 + 1 := fun s u v => by simp [ot_addCount]
  have c3 : ∀ s u v w, (ot_addWish Y s u v w) 10 1 = Y 10 1 := fun s u v w => by simp [ot_addWish]
  have wish : ∀ g, g ≤ 1 → Y 10 2 < 20 → ot_stG Y n (ot_te t n e) (ot_stW Y t n (ot_te t n e) g) := fun g hg h20 => by
    unfold ot_stW ot_st2
    refine ot_stG_num h1 (fun a _ ha => ?_)
    have h2 := ot_te_le t h1
    refine ot_stG_num h2 (fun b _ hb => ?_)
    have h3 := ot_te_le t h2
    split
    · exact ot_stG_none t h2
    · rename_i ne
      refine ot_stG_num h3 (fun w hw1 hw2 => ?_)
      exact fin (ot_te_le t h3) (ot_YW_addWish hW h20 ha hb (fun z => ne z.symm) hg ⟨hw1, by omega⟩) (by rw [c3]; exact Nat.le_refl _)
  unfold ot_stm
  by_cases w0 : ot_isW t n e 0 = true
  · rw [if_pos w0]
    split
    · rename_i h14
      refine up 0 w0 ?_
      refine ot_stG_num h1 (fun a ha1 ha2 => ?_)
      have h2 := ot_te_le t h1
      refine ot_stG_num h2 (fun b _ hb => ?_)
      exact fin (ot_te_le t h2) (ot_YW_addChild hW h14 ⟨ha1, by omega⟩ (by omega)) (by rw [c1]; exact Nat.le_refl _)
    · exact ot_stG_none t he
  rw [if_neg w0]
  by_cases w1 : ot_isW t n e 1 = true
  · rw [if_pos w1]
    split
    · rename_i h6
      refine up 1 w1 ?_
      refine ot_stG_num h1 (fun a ha1 ha2 => ?_)
      have h2 := ot_te_le t h1
      refine ot_stG_num h2 (fun b hb1 hb => ?_)
      have h3 := ot_te_le t h2
      refine ot_stG_num h3 (fun c _ hc => ?_)
      exact fin (ot_te_le t h3) (ot_YW_addCount hW h6 (by omega) ⟨hb1, by omega⟩ (by omega)) (by rw [c2]; omega)
    · exact ot_stG_none t he
  rw [if_neg w1]
  by_cases w2 : ot_isW t n e 2 = true
  · rw [if_pos w2]
    split
    · rename_i h20; exact up 2 w2 (wish 1 (by omega) h20)
    · exact ot_stG_none t he
  rw [if_neg w2]
  by_cases w3 : ot_isW t n e 3 = true
  · rw [if_pos w3]
    split
    · rename_i h20; exact up 3 w3 (wish 0 (by omega) h20)
    · exact ot_stG_none t he
  rw [if_neg w3]
  by_cases w4 : ot_isW t n e 4 = true
  · rw [if_pos w4]
    refine up 4 w4 ?_
    unfold ot_stS ot_st2
    refine ot_stG_num h1 (fun a _ ha => ?_)
    have h2 := ot_te_le t h1
    refine ot_stG_num h2 (fun b _ hb => ?_)
    split
    · exact ot_stG_none t h2
    · exact fin (ot_te_le t h2) (ot_YW_swap hW ha hb) (Nat.le_refl _)
  rw [if_neg w4]
  by_cases w5 : ot_isW t n e 5 = true
  · rw [if_pos w5]
    refine up 5 w5 ?_
    refine ot_stG_num h1 (fun a _ ha => ?_)
    have h2 := ot_te_le t h1
    refine ot_stG_num h2 (fun b _ hb => ?_)
    exact fin (ot_te_le t h2) (ot_YW_move hW ha hb) (Nat.le_refl _)
  rw [if_neg w5]
  exact ot_stG_none t he
/-- the whole text: the yard and how many statements, or where the fault is -/
def ot_rd (t : Nat → Nat) (n : Nat) : Nat → ot_Y → Nat → Nat → Option ot_Y × Nat
  | 0, _, _, _ => (none, n)
  | f + 1, Y, e, c => match ot_stm Y t n e with
    | (none, p) => (none, p)
    | (some Y2, e2) => if ot_tn t n e2 = 0 then (some Y2, c) else if ot_tn t n e2 = 3 then ot_rd t n f Y2 (ot_te t n e2) (c + 1) else (none, ot_ts t n e2)
theorem ot_rd_none {t : Nat → Nat} {n f : Nat} {Y : ot_Y} {e c p : Nat} (h : ot_stm Y t n e = (none, p)) : ot_rd t n (f + 1) Y e c = (none, p) := by rw [ot_rd, h]
theorem ot_rd_some {t : Nat → Nat} {n f : Nat} {Y Y2 : ot_Y} {e e2 c : Nat} (h : ot_stm Y t n e = (some Y2, e2)) : ot_rd t n (f + 1) Y e c = if ot_tn t n e2 = 0 then (some Y2, c) else if ot_tn t n e2 = 3 then ot_rd t n f Y2 (ot_te t n e2) (c + 1) else (none, ot_ts t n e2) := by rw [ot_rd, h]
theorem ot_rd_G (t : Nat → Nat) (n : Nat) : ∀ (f : Nat) (Y : ot_Y) (e c : Nat), ot_YW Y → e ≤ n → (ot_rd t n f Y e c).2 ≤ max n (c + f) ∧ ∀ Y2, (ot_rd t n f Y e c).1 = some Y2 → ot_YW Y2 ∧ Y 10 1 ≤ Y2 10 1
  | 0, Y, e, c, hW, he => ⟨by rw [ot_rd]; omega, fun Y2 z => by rw [ot_rd] at z; cases z⟩
  | f + 1, Y, e, c, hW, he => by
    have hg := ot_stm_G hW t he
    cases hs : ot_stm Y t n e with
    | mk a b =>
      rw [hs] at hg
      cases a with
      | none => rw [ot_rd_none hs]; exact ⟨Nat.le_trans hg.1 (Nat.le_max_left _ _), fun _ z => by cases z⟩
      | some Y2 =>
        rw [ot_rd_some hs]
        have h2 := hg.2 Y2 rfl
        split
        · exact ⟨by show c ≤ _; omega, fun Y3 z => by cases z; exact ⟨h2.1, h2.2.1⟩⟩
        · split
          · have := ot_rd_G t n f Y2 (ot_te t n b) (c + 1) h2.1 (ot_te_le t hg.1)
            exact ⟨by have := this.1; omega, fun Y3 z => ⟨(this.2 Y3 z).1, Nat.le_trans h2.2.1 (this.2 Y3 z).2⟩⟩
          · exact ⟨Nat.le_trans (ot_ts_le t hg.1) (Nat.le_max_left _ _), fun _ z => by cases z⟩
def ot_yA (r : Option ot_Y × Nat) : Int32 := match r with
  | (none, p) => (-20 : Int32) - nI p
  | (some _, c) => nI c
def ot_yY (Y : ot_Y) (r : Option ot_Y × Nat) : ot_Y := match r with
  | (none, _) => Y
  | (some Y2, _) => Y2
def ot_yR (r : Option ot_Y × Nat) : Nat := match r with
  | (none, _) => 2
  | (some _, _) => 0
