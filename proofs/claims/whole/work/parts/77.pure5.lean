/-! ===== most: fillings of the teams ===== -/
def ot_num (f : Nat → Bool) : Nat → Nat
  | 0 => 0
  | n + 1 => ot_num f n + (if f n = true then 1 else 0)
theorem ot_num_le (f : Nat → Bool) : ∀ n, ot_num f n ≤ n
  | 0 => Nat.le_refl _
  | n + 1 => by have := ot_num_le f n; unfold ot_num; split <;> omega
theorem ot_num_cong {f g : Nat → Bool} : ∀ n, (∀ i, i < n → f i = g i) → ot_num f n = ot_num g n
  | 0, _ => rfl
  | n + 1, h => by unfold ot_num; rw [ot_num_cong n (fun i hi => h i (by omega)), h n (by omega)]
theorem ot_num_full {f : Nat → Bool} : ∀ n, ot_num f n = n → ∀ i, i < n → f i = true
  | 0, _, i, hi => by omega
  | n + 1, h, i, hi => by
    have h1 := ot_num_le f n
    unfold ot_num at h
    by_cases hf : f n = true
    · rw [if_pos hf] at h
      by_cases e : i = n
      · rw [e]; exact hf
      · exact ot_num_full n (by omega) i (by omega)
    · rw [if_neg hf] at h; omega
theorem ot_num_mono {f g : Nat → Bool} : ∀ n, (∀ i, i < n → f i = true → g i = true) → ot_num f n ≤ ot_num g n
  | 0, _ => Nat.le_refl _
  | n + 1, h => by
    have h1 := ot_num_mono n (fun i hi => h i (by omega))
    have h2 := h n (by omega)
    unfold ot_num
    by_cases hf : f n = true
    · rw [if_pos hf, if_pos (h2 hf)]; omega
    · rw [if_neg hf]; omega
theorem ot_num_more {f g : Nat → Bool} {n : Nat} (h : ot_num f n < ot_num g n) : ∃ i, i < n ∧ g i = true ∧ f i = false := by
  refine Classical.byContradiction (fun hq => ?_)
  have := ot_num_mono (f := g) (g := f) n (fun i hi hg => by
    cases hf : f i with
    | true => rfl
    | false => exact absurd ⟨i, hi, hg, hf⟩ hq)
  omega
theorem ot_num_upd {f g : Nat → Bool} {c : Nat} (hc : f c = false) (h : ∀ i, i ≠ c → g i = f i) : ∀ n, c < n → ot_num g n = ot_num f n + (if g c = true then 1 else 0)
  | 0, hn => by omega
  | n + 1, hn => by
    unfold ot_num
    by_cases e : c = n
    · subst e
      rw [hc, ot_num_cong c (fun i hi => h i (by omega))]
      simp
    · rw [ot_num_upd hc h n (by omega), h n (fun z => e z.symm)]
      omega
theorem ot_num_0 (n : Nat) : ot_num (fun _ => false) n = 0 := by
  induction n with
  | zero => rfl
  | succ n ih => unfold ot_num; rw [ih]; rfl
theorem ot_num_grow (f : Nat → Bool) {p : Nat} : ∀ n, p < n → f p = true → ot_num f p + 1 ≤ ot_num f n
  | 0, h, _ => by omega
  | n + 1, h, hf => by
    rw [show ot_num f (n + 1) = ot_num f n + (if f n = true then 1 else 0) from rfl]
    by_cases e : p = n
    · subst e; rw [if_pos hf]; omega
    · have := ot_num_grow f n (by omega) hf; omega
def ot_fil (n : Nat) (g s : Nat → Nat) : Prop := ∀ t, ot_num (fun c => decide (s c = t)) n = ot_num (fun q => decide (g q = t)) n
/-- the greatest value of all fillings -/
def ot_isMost (Y : ot_Y) (g : Nat → Nat) (x : Nat) : Prop := (∀ s, ot_fil (Y 10 0) g s → ot_valS Y s ≤ x) ∧ (x = 0 ∨ ∃ s, ot_fil (Y 10 0) g s ∧ ot_valS Y s = x)
theorem ot_isMost_eq {Y : ot_Y} {g : Nat → Nat} {x y : Nat} (h1 : ot_isMost Y g x) (h2 : ot_isMost Y g y) : x = y := by
  have a : ∀ {x y : Nat}, ot_isMost Y g x → ot_isMost Y g y → x ≤ y := fun h1 h2 => by
    cases h1.2 with
    | inl e => omega
    | inr e => obtain ⟨s, hs, e⟩ := e; have := h2.1 s hs; omega
  have b1 := a h1 h2
  have b2 := a h2 h1
  omega
/-! the reference's road: who stands at 0, 1, 2 .. -/
def ot_sk (n : Nat) (g : Nat → Nat) (u : Nat → Bool) (p : Nat) (w : Nat → Nat) : Prop := ot_num u n = p ∧ (∀ c, c < n → u c = true → w c < p) ∧ (∀ c e, c < n → e < n → u c = true → u e = true → w c = w e → c = e) ∧ ∀ t, ot_num (fun c => u c && decide (g (w c) = t)) n = ot_num (fun q => decide (g q = t)) p
theorem ot_sk_0 (n : Nat) (g w : Nat → Nat) : ot_sk n g (fun _ => false) 0 w := ⟨ot_num_0 n, fun _ _ h => by simp at h, fun _ _ _ _ h => by simp at h, fun t => (ot_num_cong n (fun i _ => by simp)).trans (ot_num_0 n)⟩
theorem ot_sk_cong {n : Nat} {g w w2 : Nat → Nat} {u : Nat → Bool} {p : Nat} (h : ot_sk n g u p w) (hw : ∀ c, c < n → u c = true → w2 c = w c) : ot_sk n g u p w2 := by
  refine ⟨h.1, fun c hc hu => by rw [hw c hc hu]; exact h.2.1 c hc hu, fun c e hc he hu hv => ?_, fun t => ?_⟩
  · rw [hw c hc hu, hw e he hv]; exact h.2.2.1 c e hc he hu hv
  · rw [← h.2.2.2 t]
    refine ot_num_cong n (fun i hi => ?_)
    cases hu : u i with
    | false => rfl
    | true => rw [hw i hi hu]
def ot_also (u : Nat → Bool) (c : Nat) : Nat → Bool := fun j => u j || decide (j = c)
def ot_set1 (w : Nat → Nat) (c p : Nat) : Nat → Nat := fun j => if j = c then p else w j
theorem ot_sk_step {n : Nat} {g w : Nat → Nat} {u : Nat → Bool} {p c : Nat} (h : ot_sk n g u p w) (hc : c < n) (hu : u c = false) : ot_sk n g (ot_also u c) (p + 1) (ot_set1 w c p) := by
  have hne : ∀ e, u e = true → e ≠ c := fun e he z => by rw [z, hu] at he; cases he
  have cases_ : ∀ e, ot_also u c e = true → (u e = true ∧ e ≠ c) ∨ e = c := fun e he => by
    unfold ot_also at he
    simp only [Bool.or_eq_true, decide_eq_true_eq] at he
    cases he with
    | inl he => exact .inl ⟨he, hne e he⟩
    | inr he => exact .inr he
  refine ⟨?_, fun e he hu2 => ?_, fun a b ha hb hua hub hw => ?_, fun t => ?_⟩
  · rw [ot_num_upd hu (fun i hi => by unfold ot_also; simp [hi]) n hc, h.1]
    unfold ot_also; simp
  · unfold ot_set1
    split
    · omega
    · rename_i hx
      cases cases_ e hu2 with
      | inl z => have := h.2.1 e he z.1; omega
      | inr z => exact absurd z hx
  · unfold ot_set1 at hw
    rcases cases_ a hua with za | za <;> rcases cases_ b hub with zb | zb
    · rw [if_neg za.2, if_neg zb.2] at hw
      exact h.2.2.1 a b ha hb za.1 zb.1 hw
    · rw [if_neg za.2, if_pos zb] at hw
      have := h.2.1 a ha za.1; omega
    · rw [if_pos za, if_neg zb.2] at hw
      have := h.2.1 b hb zb.1; omega
    · omega
  · rw [ot_num_upd (f := fun e => u e && decide (g (w e) = t)) (c := c) (by simp [hu]) (fun i hi => by
      unfold ot_also ot_set1; rw [if_neg hi]; simp [hi]) n hc, h.2.2.2 t]
    show _ = ot_num _ p + _
    congr 1
    unfold ot_also ot_set1
    simp
theorem ot_sk_leaf {n : Nat} {g w : Nat → Nat} {u : Nat → Bool} (h : ot_sk n g u n w) : (∀ c, c < n → u c = true) ∧ (∀ c, c < n → w c < n) ∧ (∀ c e, c < n → e < n → w c = w e → c = e) ∧ ot_fil n g (fun c => g (w c)) := by
  have hu := ot_num_full n h.1
  refine ⟨hu, fun c hc => h.2.1 c hc (hu c hc), fun c e hc he => h.2.2.1 c e hc he (hu c hc) (hu e he), fun t => ?_⟩
  rw [← h.2.2.2 t]
  exact ot_num_cong n (fun i hi => by rw [hu i hi]; rfl)
theorem ot_sk_pick {n : Nat} {g w s : Nat → Nat} {u : Nat → Bool} {p : Nat} (h : ot_sk n g u p w) (hp : p < n) (hs : ot_fil n g s) (hc : ∀ c, c < n → u c = true → s c = g (w c)) : ∃ c, c < n ∧ u c = false ∧ s c = g p := by
  have h1 : ot_num (fun c => u c && decide (s c = g p)) n < ot_num (fun c => decide (s c = g p)) n := by
    rw [hs (g p), ot_num_cong (g := fun c => u c && decide (g (w c) = g p)) n (fun i hi => by
      cases hu : u i with
      | false => rfl
      | true => rw [hc i hi hu]), h.2.2.2 (g p)]
    exact ot_num_grow (fun q => decide (g q = g p)) n hp (by simp)
  obtain ⟨c, hcn, e1, e2⟩ := ot_num_more h1
  simp only [decide_eq_true_eq] at e1
  refine ⟨c, hcn, ?_, e1⟩
  simpa [e1] using e2
/-- what a search below (u, p, w) makes of the value so far -/
def ot_sok (Y : ot_Y) (g : Nat → Nat) (u : Nat → Bool) (w : Nat → Nat) (v x : Nat) : Prop := v ≤ x ∧ (∀ s, ot_fil (Y 10 0) g s → (∀ c, c < Y 10 0 → u c = true → s c = g (w c)) → ot_valS Y s ≤ x) ∧ (x = v ∨ ∃ s, ot_fil (Y 10 0) g s ∧ ot_valS Y s = x)
/-- and the part of it behind the children before j -/
def ot_soj (Y : ot_Y) (g : Nat → Nat) (u : Nat → Bool) (p : Nat) (w : Nat → Nat) (v : Nat) (j x : Nat) : Prop := v ≤ x ∧ (∀ s, ot_fil (Y 10 0) g s → (∀ c, c < Y 10 0 → u c = true → s c = g (w c)) → (∃ c, c < j ∧ u c = false ∧ s c = g p) → ot_valS Y s ≤ x) ∧ (x = v ∨ ∃ s, ot_fil (Y 10 0) g s ∧ ot_valS Y s = x)
theorem ot_soj_0 (Y : ot_Y) (g : Nat → Nat) (u : Nat → Bool) (p : Nat) (w : Nat → Nat) (v : Nat) : ot_soj Y g u p w v 0 v := ⟨Nat.le_refl _, fun _ _ _ ⟨c, hc, _⟩ => by omega, .inl rfl⟩
theorem ot_soj_skip {Y : ot_Y} {g : Nat → Nat} {u : Nat → Bool} {p : Nat} {w : Nat → Nat} {v j x : Nat} (h : ot_soj Y g u p w v j x) (hu : u j = true) : ot_soj Y g u p w v (j + 1) x := ⟨h.1, fun s h1 h2 ⟨c, hc, h3, h4⟩ => h.2.1 s h1 h2 ⟨c, by
  by_cases e : c = j
  · rw [e, hu] at h3; cases h3
  · omega, h3, h4⟩, h.2.2⟩
theorem ot_soj_next {Y : ot_Y} {g : Nat → Nat} {u : Nat → Bool} {p : Nat} {w w1 : Nat → Nat} {v j x y : Nat} (h : ot_soj Y g u p w v j x) (hu : u j = false) (hw : ∀ c, c < Y 10 0 → u c = true → w1 c = w c) (h2 : ot_sok Y g (ot_also u j) (ot_set1 w1 j p) x y) : ot_soj Y g u p w v (j + 1) y := by
  refine ⟨Nat.le_trans h.1 h2.1, fun s h3 h4 ⟨c, hc, h5, h6⟩ => ?_, ?_⟩
  · by_cases e : c = j
    · refine h2.2.1 s h3 (fun a ha hua => ?_)
      unfold ot_also at hua
      unfold ot_set1
      split
      · rename_i z; rw [z, ← e]; exact h6
      · rename_i z
        have hua2 : u a = true := by simpa [z] using hua
        rw [hw a ha hua2]; exact h4 a ha hua2
    · exact Nat.le_trans (h.2.1 s h3 h4 ⟨c, by omega, h5, h6⟩) h2.1
  · cases h2.2.2 with
    | inl z => rw [z]; exact h.2.2
    | inr z => exact .inr z
theorem ot_sok_of {Y : ot_Y} {g : Nat → Nat} {u : Nat → Bool} {p : Nat} {w : Nat → Nat} {v x : Nat} (hk : ot_sk (Y 10 0) g u p w) (hp : p < Y 10 0) (h : ot_soj Y g u p w v (Y 10 0) x) : ot_sok Y g u w v x := ⟨h.1, fun s h1 h2 => h.2.1 s h1 h2 (ot_sk_pick hk hp h1 h2), h.2.2⟩
theorem ot_sok_cong {Y : ot_Y} {g : Nat → Nat} {u u2 : Nat → Bool} {w w2 : Nat → Nat} {v x : Nat} (h : ot_sok Y g u w v x) (hu : ∀ c, c < Y 10 0 → u2 c = u c) (hw : ∀ c, c < Y 10 0 → u c = true → w2 c = w c) : ot_sok Y g u2 w2 v x := ⟨h.1, fun s h1 h2 => h.2.1 s h1 (fun c hc hc2 => by rw [h2 c hc (by rw [hu c hc]; exact hc2), hw c hc hc2]), h.2.2⟩
/-! the component's road: which team 0, 1, 2 .. come into -/
def ot_tkn (s : Nat → Nat) (c t : Nat) : Nat := ot_num (fun e => decide (s e = t)) c
def ot_rm (n : Nat) (g : Nat → Nat) (t : Nat) : Nat := ot_num (fun q => decide (g q = t)) n
def ot_like (n : Nat) (g s : Nat → Nat) (c t a : Nat) : Prop := ot_tkn s c t = 0 ∧ ot_tkn s c a = 0 ∧ ot_rm n g a = ot_rm n g t
def ot_cok (Y : ot_Y) (g s : Nat → Nat) (c x : Nat) : Prop := (∀ s2, ot_fil (Y 10 0) g s2 → (∀ e, e < Y 10 0 → s2 e < 5) → (∀ e, e < c → s2 e = s e) → ot_valS Y s2 ≤ x) ∧ (x = 0 ∨ ∃ s2, ot_fil (Y 10 0) g s2 ∧ ot_valS Y s2 = x)
def ot_coj (Y : ot_Y) (g s : Nat → Nat) (c j x : Nat) : Prop := (∀ s2, ot_fil (Y 10 0) g s2 → (∀ e, e < Y 10 0 → s2 e < 5) → (∀ e, e < c → s2 e = s e) → s2 c < j → (∀ a, a < s2 c → ¬ ot_like (Y 10 0) g s c (s2 c) a) → ot_valS Y s2 ≤ x) ∧ (x = 0 ∨ ∃ s2, ot_fil (Y 10 0) g s2 ∧ ot_valS Y s2 = x)
theorem ot_tkn_pos {s : Nat → Nat} {t e : Nat} : ∀ c, e < c → s e = t → 0 < ot_tkn s c t := fun c he hs => by
  have := ot_num_grow (fun e => decide (s e = t)) c he (by simp [hs])
  unfold ot_tkn; omega
theorem ot_tkn_cong {s s2 : Nat → Nat} {c : Nat} (h : ∀ e, e < c → s2 e = s e) (t : Nat) : ot_tkn s2 c t = ot_tkn s c t := ot_num_cong c (fun i hi => by rw [h i hi])
theorem ot_room_of {n : Nat} {g s s2 : Nat → Nat} {c : Nat} (hc : c < n) (h : ot_fil n g s2) (ha : ∀ e, e < c → s2 e = s e) : ot_tkn s c (s2 c) < ot_rm n g (s2 c) := by
  unfold ot_rm
  rw [← h (s2 c), ← ot_tkn_cong ha]
  exact ot_num_grow (fun e => decide (s2 e = s2 c)) n hc (by simp)
/-- two teams' names exchanged -/
def ot_ren (a b t : Nat) : Nat := if t = a then b else if t = b then a else t
theorem ot_ren_inj (a b : Nat) {x y : Nat} (h : ot_ren a b x = ot_ren a b y) : x = y := by
  unfold ot_ren at h
  repeat' split at h
  all_goals omega
theorem ot_ren_ren (a b x : Nat) : ot_ren a b (ot_ren a b x) = x := by
  unfold ot_ren
  repeat' split
  all_goals omega
theorem ot_valS_ren (Y : ot_Y) (s : Nat → Nat) (a b : Nat) : ot_valS Y (fun c => ot_ren a b (s c)) = ot_valS Y s := by
  unfold ot_valS
  congr 1
  funext i
  have : ot_metS Y (fun c => ot_ren a b (s c)) i = ot_metS Y s i := by
    unfold ot_metS
    congr 1
    by_cases e : s (Y 6 i) = s (Y 7 i)
    · simp only [e]
    · rw [decide_eq_false e, decide_eq_false (fun z => e (ot_ren_inj a b z))]
  rw [this]
theorem ot_fil_ren {n : Nat} {g s : Nat → Nat} {a b : Nat} (h : ot_fil n g s) (hr : ot_rm n g a = ot_rm n g b) : ot_fil n g (fun c => ot_ren a b (s c)) := fun t => by
  have e : ot_num (fun c => decide (ot_ren a b (s c) = t)) n = ot_num (fun c => decide (s c = ot_ren a b t)) n := ot_num_cong n (fun i _ => by
    by_cases z : ot_ren a b (s i) = t
    · rw [decide_eq_true z, ← z, ot_ren_ren]; simp
    · rw [decide_eq_false z, decide_eq_false (fun y => z (by rw [y, ot_ren_ren]))])
  rw [e, h (ot_ren a b t)]
  unfold ot_ren
  split
  · rename_i z; rw [z]; exact hr.symm
  · split
    · rename_i z; rw [z]; exact hr
    · rfl
theorem ot_cok_of {Y : ot_Y} {g s : Nat → Nat} {c x : Nat} (hc : c < Y 10 0) (h : ot_coj Y g s c 5 x) : ot_cok Y g s c x := by
  refine ⟨fun s2 hf h5 ha => ?_, h.2⟩
  -- the least of those like it
  have least : ∀ m t, t < m → (∃ a, a < t ∧ ot_like (Y 10 0) g s c t a) → ∃ a, a < t ∧ ot_like (Y 10 0) g s c t a ∧ ∀ b, b < a → ¬ ot_like (Y 10 0) g s c a b := by
    intro m
    induction m with
    | zero => intro t ht; omega
    | succ m ih =>
      intro t ht hq
      obtain ⟨a, hat, hl⟩ := hq
      by_cases hb : ∃ b, b < a ∧ ot_like (Y 10 0) g s c a b
      · obtain ⟨b, hba, hl2, hm⟩ := ih a (by omega) hb
        exact ⟨b, by omega, ⟨hl.1, hl2.2.1, hl2.2.2.trans hl.2.2⟩, hm⟩
      · exact ⟨a, hat, hl, fun b hb2 hl2 => hb ⟨b, hb2, hl2⟩⟩
  by_cases hq : ∃ a, a < s2 c ∧ ot_like (Y 10 0) g s c (s2 c) a
  · obtain ⟨a, hat, hl, hm⟩ := least (s2 c + 1) (s2 c) (by omega) hq
    have hno : ∀ e, e < c → s2 e ≠ s2 c ∧ s2 e ≠ a := fun e he => by
      refine ⟨fun z => ?_, fun z => ?_⟩
      · have := ot_tkn_pos c he (show s e = s2 c by rw [← ha e he]; exact z)
        have := hl.1; omega
      · have := ot_tkn_pos c he (show s e = a by rw [← ha e he]; exact z)
        have := hl.2.1; omega
    have hsc : ot_ren (s2 c) a (s2 c) = a := by unfold ot_ren; rw [if_pos rfl]
    have h5c := h5 c hc
    rw [← ot_valS_ren Y s2 (s2 c) a]
    refine h.1 _ (ot_fil_ren hf hl.2.2.symm) (fun e he => ?_) (fun e he => ?_) ?_ ?_
    · have := h5 e he
      unfold ot_ren
      split
      · omega
      · split <;> omega
    · unfold ot_ren
      rw [if_neg (hno e he).1, if_neg (hno e he).2]; exact ha e he
    · show ot_ren (s2 c) a (s2 c) < 5
      rw [hsc]; omega
    · show ∀ b, b < ot_ren (s2 c) a (s2 c) → ¬ ot_like (Y 10 0) g s c (ot_ren (s2 c) a (s2 c)) b
      rw [hsc]; exact hm
  · exact h.1 s2 hf h5 ha (h5 c hc) (fun a ha2 hl => hq ⟨a, ha2, hl⟩)
theorem ot_coj_0 (Y : ot_Y) (g s : Nat → Nat) (c : Nat) : ot_coj Y g s c 0 0 := ⟨fun _ _ _ _ h => by omega, .inl rfl⟩
theorem ot_coj_full {Y : ot_Y} {g s : Nat → Nat} {c j x : Nat} (hc : c < Y 10 0) (h : ot_coj Y g s c j x) (hr : ¬ ot_tkn s c j < ot_rm (Y 10 0) g j) : ot_coj Y g s c (j + 1) x := ⟨fun s2 h1 h2 h3 h4 h5 => by
  by_cases e : s2 c = j
  · have := ot_room_of hc h1 h3
    rw [e] at this
    exact absurd this hr
  · exact h.1 s2 h1 h2 h3 (by omega) h5, h.2⟩
theorem ot_coj_like {Y : ot_Y} {g s : Nat → Nat} {c j x : Nat} (h : ot_coj Y g s c j x) (hr : ∃ a, a < j ∧ ot_like (Y 10 0) g s c j a) : ot_coj Y g s c (j + 1) x := ⟨fun s2 h1 h2 h3 h4 h5 => by
  by_cases e : s2 c = j
  · obtain ⟨a, ha, hl⟩ := hr
    rw [e] at h5
    exact absurd hl (h5 a ha)
  · exact h.1 s2 h1 h2 h3 (by omega) h5, h.2⟩
theorem ot_coj_next {Y : ot_Y} {g s : Nat → Nat} {c j x y : Nat} (h : ot_coj Y g s c j x) (h2 : ot_cok Y g (ot_set1 s c j) (c + 1) y) : ot_coj Y g s c (j + 1) (max x y) := by
  refine ⟨fun s2 h3 h4 h5 h6 h7 => ?_, ?_⟩
  · by_cases e : s2 c = j
    · have := h2.1 s2 h3 h4 (fun e2 he2 => by
        unfold ot_set1
        split
        · rename_i z; rw [z, e]
        · exact h5 e2 (by omega))
      omega
    · have := h.1 s2 h3 h4 h5 (by omega) h7
      omega
  · by_cases e : x ≤ y
    · rw [Nat.max_eq_right e]; exact h2.2
    · rw [Nat.max_eq_left (by omega)]; exact h.2
theorem ot_tkn_sum {s : Nat → Nat} : ∀ n, (∀ e, e < n → s e < 5) → ot_tkn s n 0 + ot_tkn s n 1 + ot_tkn s n 2 + ot_tkn s n 3 + ot_tkn s n 4 = n
  | 0, _ => rfl
  | n + 1, h => by
    have h1 := ot_tkn_sum n (fun e he => h e (by omega))
    have h2 := h n (by omega)
    have h3 : ∀ t, ot_tkn s (n + 1) t = ot_tkn s n t + (if s n = t then 1 else 0) := fun t => by
      show ot_num _ n + _ = _
      by_cases z : s n = t <;> simp [z, ot_tkn]
    rw [h3, h3, h3, h3, h3]
    have h4 : s n = 0 ∨ s n = 1 ∨ s n = 2 ∨ s n = 3 ∨ s n = 4 := by omega
    rcases h4 with z | z | z | z | z <;> simp only [z] <;> simp <;> omega
theorem ot_tkn_5 {s : Nat → Nat} {n t : Nat} (h : ∀ e, e < n → s e < 5) (ht : 5 ≤ t) : ot_tkn s n t = 0 := (ot_num_cong (g := fun _ => false) n (fun i hi => decide_eq_false (by have := h i hi; omega))).trans (ot_num_0 n)
theorem ot_fil_of {n : Nat} {g s : Nat → Nat} (hg : ∀ q, q < n → g q < 5) (hs : ∀ e, e < n → s e < 5) (h : ∀ t, t < 5 → ot_tkn s n t ≤ ot_rm n g t) : ot_fil n g s := fun t => by
  show ot_tkn s n t = ot_tkn g n t
  by_cases h5 : 5 ≤ t
  · rw [ot_tkn_5 hs h5, ot_tkn_5 hg h5]
  · have a := ot_tkn_sum n hs
    have b := ot_tkn_sum n hg
    have c0 : ot_tkn s n 0 ≤ ot_tkn g n 0 := h 0 (by decide)
    have c1 : ot_tkn s n 1 ≤ ot_tkn g n 1 := h 1 (by decide)
    have c2 : ot_tkn s n 2 ≤ ot_tkn g n 2 := h 2 (by decide)
    have c3 : ot_tkn s n 3 ≤ ot_tkn g n 3 := h 3 (by decide)
    have c4 : ot_tkn s n 4 ≤ ot_tkn g n 4 := h 4 (by decide)
    have h4 : t = 0 ∨ t = 1 ∨ t = 2 ∨ t = 3 ∨ t = 4 := by omega
    rcases h4 with z | z | z | z | z <;> subst z <;> omega
theorem ot_fil_5 {n : Nat} {g s : Nat → Nat} (hg : ∀ q, q < n → g q < 5) (h : ot_fil n g s) : ∀ e, e < n → s e < 5 := fun e he => by
  refine Classical.byContradiction (fun hq => ?_)
  have h1 := ot_tkn_pos n he (rfl : s e = s e)
  have h2 : ot_tkn s n (s e) = ot_tkn g n (s e) := h (s e)
  rw [ot_tkn_5 hg (by omega)] at h2
  omega
theorem ot_isMost_c {Y : ot_Y} {g s : Nat → Nat} {x : Nat} (hg : ∀ q, q < Y 10 0 → g q < 5) (h : ot_cok Y g s 0 x) : ot_isMost Y g x := ⟨fun s2 hf => h.1 s2 hf (ot_fil_5 hg hf) (fun e he => by omega), h.2⟩
theorem ot_isMost_m {Y : ot_Y} {g w : Nat → Nat} {u : Nat → Bool} {x : Nat} (hu : ∀ c, c < Y 10 0 → u c = false) (h : ot_sok Y g u w 0 x) : ot_isMost Y g x := ⟨fun s2 hf => h.2.1 s2 hf (fun c hc hq => by rw [hu c hc] at hq; cases hq), h.2.2⟩
