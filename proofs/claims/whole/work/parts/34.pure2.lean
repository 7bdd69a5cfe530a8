/-! ===== states changed ===== -/
def ot_put (Y : ot_Y) (r : Nat) (f : Nat → Nat) : ot_Y := fun j => if j = r then f else Y j
theorem ot_put_at (Y : ot_Y) (r : Nat) (f : Nat → Nat) : ot_put Y r f r = f := if_pos rfl
theorem ot_put_ne (Y : ot_Y) {r j : Nat} (f : Nat → Nat) (h : j ≠ r) : ot_put Y r f j = Y j := if_neg h
def ot_set (f : Nat → Nat) (i v : Nat) : Nat → Nat := fun j => if j = i then v else f j
def ot_swapF (f : Nat → Nat) (a b : Nat) : Nat → Nat := fun c => if c = b then f a else if c = a then f b else f c
def ot_swap (Y : ot_Y) (a b : Nat) : ot_Y := ot_put Y 2 (ot_swapF (Y 2) a b)
def ot_moveF (f : Nat → Nat) (c p : Nat) : Nat → Nat := fun e => if e = c then p else if f c < f e ∧ f e ≤ p then f e - 1 else if f e < f c ∧ p ≤ f e then f e + 1 else f e
def ot_move (Y : ot_Y) (c p : Nat) : ot_Y := ot_put Y 2 (ot_moveF (Y 2) c p)
def ot_turn (Y : ot_Y) : ot_Y := ot_put Y 2 (fun c => Y 10 0 - 1 - Y 2 c)
/-- only the places differ -/
theorem ot_YW_places {Y : ot_Y} {f : Nat → Nat} (hW : ot_YW Y) (h1 : ∀ c, c < Y 10 0 → f c < Y 10 0) (h2 : ∀ c e, c < Y 10 0 → e < Y 10 0 → f c = f e → c = e) : ot_YW (ot_put Y 2 f) := by
  obtain ⟨a1, a2, a3, a4, a5⟩ := hW
  refine ⟨a1, fun c hc => ?_, h2, a4, a5⟩
  have := a2 c hc
  exact ⟨this.1, this.2.1, this.2.2.1, h1 c hc⟩
theorem ot_YW_swap {Y : ot_Y} (hW : ot_YW Y) {a b : Nat} (ha : a < Y 10 0) (hb : b < Y 10 0) : ot_YW (ot_swap Y a b) := by
  have ja := (yw_child hW ha).2.2.2
  have jb := (yw_child hW hb).2.2.2
  refine ot_YW_places hW (fun c hc => ?_) (fun c e hc he q => ?_)
  · have jc := (yw_child hW hc).2.2.2
    unfold ot_swapF
    split
    · exact ja
    · split
      · exact jb
      · exact jc
  · unfold ot_swapF at q
    have i1 := @yw_inj Y hW
    split at q <;> split at q <;> (try split at q) <;> (try split at q)
    all_goals first
      | omega
      | (have := i1 ha hb q; omega)
      | (have := i1 hb ha q; omega)
      | (have := i1 ha he q; omega)
      | (have := i1 hb he q; omega)
      | (have := i1 hc ha q; omega)
      | (have := i1 hc hb q; omega)
      | exact i1 hc he q
theorem ot_YW_turn {Y : ot_Y} (hW : ot_YW Y) : ot_YW (ot_turn Y) := by
  refine ot_YW_places hW (fun c hc => by omega) (fun c e hc he q => ?_)
  have jc := (yw_child hW hc).2.2.2
  have je := (yw_child hW he).2.2.2
  exact yw_inj hW hc he (by omega)
theorem ot_YW_move {Y : ot_Y} (hW : ot_YW Y) {c p : Nat} (hc : c < Y 10 0) (hp : p < Y 10 0) : ot_YW (ot_move Y c p) := by
  have jc := (yw_child hW hc).2.2.2
  have i1 := @yw_inj Y hW
  refine ot_YW_places hW (fun e he => ?_) (fun e g he hg q => ?_)
  · have je := (yw_child hW he).2.2.2
    unfold ot_moveF
    split
    · exact hp
    · split
      · omega
      · split <;> omega
  · have je := (yw_child hW he).2.2.2
    have jg := (yw_child hW hg).2.2.2
    by_cases e1 : e = g
    · exact e1
    · exfalso
      have n1 : Y 2 e ≠ Y 2 g := fun z => e1 (i1 he hg z)
      unfold ot_moveF at q
      by_cases c1 : e = c
      · subst c1
        rw [if_pos rfl, if_neg (fun z => e1 z.symm)] at q
        split at q <;> (try split at q) <;> omega
      · have n2 : Y 2 e ≠ Y 2 c := fun z => c1 (i1 he hc z)
        by_cases c2 : g = c
        · subst c2
          rw [if_neg c1, if_pos rfl] at q
          split at q <;> (try split at q) <;> omega
        · have n3 : Y 2 g ≠ Y 2 c := fun z => c2 (i1 hg hc z)
          rw [if_neg c1, if_neg c2] at q
          split at q <;> split at q <;> (try split at q) <;> (try split at q) <;> omega
/-- who stands there -/
theorem ot_who {Y : ot_Y} (hW : ot_YW Y) {p : Nat} (hp : p < Y 10 0) : ∃ c, c < Y 10 0 ∧ Y 2 c = p :=
  fb_onto (n := Y 10 0) (f := Y 2) (fun i hi => (yw_child hW hi).2.2.2) (fun i j hij hj q => by have := yw_inj hW (show i < Y 10 0 by omega) hj q; omega) hp
theorem ot_side_put {Y : ot_Y} {f : Nat → Nat} (k p : Nat) : ot_side (ot_put Y 2 f) k p = ot_side Y k p := rfl
theorem ot_sideOf_put {Y : ot_Y} {f : Nat → Nat} (k c : Nat) : ot_sideOf (ot_put Y 2 f) k c = ot_side Y k (f c) := rfl
theorem ot_swap_self {Y : ot_Y} (a b : Nat) : ot_swap (ot_swap Y a b) a b = Y := by
  funext j c
  show (if j = 2 then ot_swapF (ot_swap Y a b 2) a b else ot_swap Y a b j) c = Y j c
  by_cases hj : j = 2
  · subst hj
    rw [if_pos rfl]
    have e : ot_swap Y a b 2 = ot_swapF (Y 2) a b := ot_put_at _ _ _
    rw [e]
    unfold ot_swapF
    by_cases c1 : c = b
    · rw [if_pos c1]
      by_cases c2 : a = b
      · rw [if_pos c2, c1, ← c2]
      · rw [if_neg c2, if_pos rfl, c1]
    · rw [if_neg c1]
      by_cases c2 : c = a
      · rw [if_pos c2, if_pos rfl, c2]
      · rw [if_neg c2, if_neg c1, if_neg c2]
  · rw [if_neg hj]
    exact congrFun (ot_put_ne Y _ hj) c
/-- frames: which rows of the heap may differ -/
def ot_f2 (I I2 : jv_I) (a b : Nat) : Prop := ∀ q, q ≠ a → q ≠ b → I2 q = I q
def ot_fr (I I2 : jv_I) (lo hi : Nat) : Prop := ∀ q, (q < lo ∨ hi < q) → I2 q = I q
theorem ot_fr.rf {I : jv_I} {lo hi : Nat} : ot_fr I I lo hi := fun _ _ => rfl
theorem ot_fr.tr {I I1 I2 : jv_I} {lo hi : Nat} (h : ot_fr I I1 lo hi) (h2 : ot_fr I1 I2 lo hi) : ot_fr I I2 lo hi := fun q hq => (h2 q hq).trans (h q hq)
theorem ot_fr.wide {I I1 : jv_I} {lo hi lo2 hi2 : Nat} (h : ot_fr I I1 lo hi) (h1 : lo2 ≤ lo) (h2 : hi ≤ hi2) : ot_fr I I1 lo2 hi2 := fun q hq => h q (by omega)
theorem ot_fr.up {I : jv_I} {lo hi a k : Nat} {v : Int32} (h1 : lo ≤ a) (h2 : a ≤ hi) : ot_fr I (jv_up I a k v) lo hi := fun q hq => jv_up_ne _ _ _ (by omega)
theorem ot_YR_fr {I I2 : jv_I} {y lo hi : Nat} {Y : ot_Y} (h : ot_YR I y Y) (hf : ot_fr I I2 lo hi) (hd : y + 11 < lo ∨ hi < y) : ot_YR I2 y Y := by
  have e : ∀ j, j ≤ 11 → I2 (y + j) = I (y + j) := fun j hj => hf _ (by omega)
  have e0 := e 0 (by omega)
  rw [Nat.add_zero] at e0
  unfold ot_YR at h ⊢
  rw [e0, e 1 (by omega), e 2 (by omega), e 3 (by omega), e 4 (by omega), e 5 (by omega), e 6 (by omega), e 7 (by omega), e 8 (by omega), e 9 (by omega), e 10 (by omega), e 11 (by omega)]
  exact h
theorem ot_MR_fr {I I2 : jv_I} {m lo hi : Nat} {Y : ot_Y} (h : ot_MR I m Y) (hf : ot_fr I I2 lo hi) (hd : m + 29 < lo ∨ hi < m) : ot_MR I2 m Y := by
  have e : ∀ j, j ≤ 29 → I2 (m + j) = I (m + j) := fun j hj => hf _ (by omega)
  have e0 := e 0 (by omega)
  rw [Nat.add_zero] at e0
  unfold ot_MR at h ⊢
  rw [e0, e 17 (by omega), e 18 (by omega), e 19 (by omega), e 20 (by omega), e 21 (by omega), e 22 (by omega), e 23 (by omega), e 24 (by omega), e 25 (by omega), e 26 (by omega)]
  exact h
