/-! ===== places changed: the component's Yard ===== -/
theorem jv_up_def {α : Type} (f : Nat → Nat → α) (a k : Nat) (v : α) (b j : Nat) : jv_up f a k v b j = if b = a then (if j = k then v else f b j) else f b j := rfl
theorem ot_put_put (Y : ot_Y) (r : Nat) (f g : Nat → Nat) : ot_put (ot_put Y r f) r g = ot_put Y r g := by
  funext j
  unfold ot_put
  split <;> rfl
theorem ot_swap_put (Y : ot_Y) (f : Nat → Nat) (a b : Nat) : ot_swap (ot_put Y 2 f) a b = ot_put Y 2 (ot_swapF f a b) := by
  unfold ot_swap
  rw [ot_put_put, ot_put_at]
theorem ot_put_same (Y : ot_Y) (r : Nat) : ot_put Y r (Y r) = Y := by
  funext j
  unfold ot_put
  split
  · rename_i h; rw [h]
  · rfl
theorem ot_YR_places {I I2 : jv_I} {y : Nat} {Y : ot_Y} {f : Nat → Nat} (h : ot_YR I y Y) (hq : ∀ q, q ≠ y + 3 → q ≠ y + 4 → I2 q = I q) (hw : ∀ c, c < Y 10 0 → I2 (y + 3) c = nI (f c)) (hv : ∀ c, c < Y 10 0 → I2 (y + 4) (f c) = nI c) : ot_YR I2 y (ot_put Y 2 f) := by
  obtain ⟨h1, h2, h3, h4⟩ := h
  refine ⟨?_, fun c hc => ?_, fun k hk => ?_, fun i hi => ?_⟩
  · rw [hq y (by omega) (by omega)]; exact h1
  · have := h2 c hc
    refine ⟨?_, ?_, hw c hc, hv c hc⟩
    · rw [hq (y + 1) (by omega) (by omega)]; exact this.1
    · rw [hq (y + 2) (by omega) (by omega)]; exact this.2.1
  · rw [hq (y + 5) (by omega) (by omega), hq (y + 6) (by omega) (by omega), hq (y + 7) (by omega) (by omega)]; exact h3 k hk
  · rw [hq (y + 8) (by omega) (by omega), hq (y + 9) (by omega) (by omega), hq (y + 10) (by omega) (by omega), hq (y + 11) (by omega) (by omega)]; exact h4 i hi
theorem ot_YR_congr {I : jv_I} {y : Nat} {Y : ot_Y} {f g : Nat → Nat} (h : ot_YR I y (ot_put Y 2 f)) (e : ∀ c, c < Y 10 0 → f c = g c) : ot_YR I y (ot_put Y 2 g) := by
  obtain ⟨h1, h2, h3, h4⟩ := h
  refine ⟨h1, fun c hc => ?_, h3, h4⟩
  have := h2 c hc
  have ec : ot_put Y 2 f 2 c = ot_put Y 2 g 2 c := e c hc
  rw [← ec]
  exact this
set_option maxRecDepth 20000 in
theorem ot_standM {G : jv_Gr} {I : jv_I} {J : jv_J} {y : Nat} (hG : ot_YG G y) {c p : Nat} (hc : c < 14) (hp : p < 14) : jv_C 1 mX3_stand [.ref y, .int (nI c), .int (nI p)] G I J none G (jv_up (jv_up I (y + 3) c (nI p)) (y + 4) p (nI c)) J := by
  refine jv_enter okX3_stand (L := [.ref y, .int (nI c), .int (nI p)]) rfl (Nat.le_of_ble_eq_true rfl) ?_
  refine jv_aload0 dX3_stand_0 ?_
  refine jv_getR dX3_stand_1 flX3_22 rfl (yk hG) (yr_where hG) ?_
  refine jv_iload1 dX3_stand_4 ?_
  refine jv_iload2 dX3_stand_5 ?_
  refine jv_iastN dX3_stand_6 (yk_where hG) (by omega) (by decide) ?_
  refine jv_aload0 dX3_stand_7 ?_
  refine jv_getR dX3_stand_8 flX3_25 rfl (yk hG) (yr_who hG) ?_
  refine jv_iload2 dX3_stand_11 ?_
  refine jv_iload1 dX3_stand_12 ?_
  refine jv_iastN dX3_stand_13 (yk_who hG) (by omega) (by decide) ?_
  exact jv_vret dX3_stand_14 rfl rfl rfl rfl
set_option maxRecDepth 20000 in
theorem ot_exchange0 {G : jv_Gr} {I : jv_I} {J : jv_J} {y : Nat} {Y : ot_Y} (hG : ot_YG G y) (hR : ot_YR I y Y) (hW : ot_YW Y) {a b : Nat} (ha : a < Y 10 0) (hb : b < Y 10 0) : jv_C 2 mX3_exchange [.ref y, .int (nI a), .int (nI b)] G I J none G (jv_up (jv_up (jv_up (jv_up I (y + 3) a (nI (Y 2 b))) (y + 4) (Y 2 b) (nI a)) (y + 3) b (nI (Y 2 a))) (y + 4) (Y 2 a) (nI b)) J := by
  refine jv_enter okX3_exchange (L := [.ref y, .int (nI a), .int (nI b), .null]) rfl (Nat.le_of_ble_eq_true rfl) ?_
  have bn := yw_n hW
  have bc := yw_c hW
  have bw := yw_w hW
  have qa := yw_child hW ha
  have qb := yw_child hW hb
  refine jv_aload0 dX3_exchange_0 ?_
  refine jv_getR dX3_exchange_1 flX3_22 rfl (yk hG) (yr_where hG) ?_
  refine jv_iload1 dX3_exchange_4 ?_
  refine jv_ialdN dX3_exchange_5 (yk_where hG) (by omega) (by decide) (ye_where hR (by omega)) ?_
  refine jv_istore3 dX3_exchange_6 rfl ?_
  refine jv_aload0 dX3_exchange_7 ?_
  refine jv_iload1 dX3_exchange_8 ?_
  refine jv_aload0 dX3_exchange_9 ?_
  refine jv_getR dX3_exchange_10 flX3_22 rfl (yk hG) (yr_where hG) ?_
  refine jv_iload2 dX3_exchange_13 ?_
  refine jv_ialdN dX3_exchange_14 (yk_where hG) (by omega) (by decide) (ye_where hR (by omega)) ?_
  refine jv_v20 dX3_exchange_15 okX3_stand inX3_stand seX3_stand mlX3_72 (ci := 3) (T := TX3) (N := 15) rfl (yk hG) (ot_standM hG (by omega) (by omega)) (by decide) (Nat.le_of_ble_eq_true rfl) ?_
  refine jv_aload0 dX3_exchange_18 ?_
  refine jv_iload2 dX3_exchange_19 ?_
  refine jv_iload3 dX3_exchange_20 ?_
  refine jv_v20 dX3_exchange_21 okX3_stand inX3_stand seX3_stand mlX3_72 (ci := 3) (T := TX3) (N := 15) rfl (yk hG) (ot_standM hG (by omega) (by omega)) (by decide) (Nat.le_of_ble_eq_true rfl) ?_
  exact jv_vret dX3_exchange_24 rfl rfl rfl rfl
theorem ot_exchangeM {G : jv_Gr} {I : jv_I} {J : jv_J} {y : Nat} {Y : ot_Y} (hG : ot_YG G y) (hR : ot_YR I y Y) (hW : ot_YW Y) {a b : Nat} (ha : a < Y 10 0) (hb : b < Y 10 0) : ∃ I2, jv_C 2 mX3_exchange [.ref y, .int (nI a), .int (nI b)] G I J none G I2 J ∧ ot_YR I2 y (ot_swap Y a b) ∧ ∀ q, q ≠ y + 3 → q ≠ y + 4 → I2 q = I q := by
  have qa := yw_child hW ha
  have qb := yw_child hW hb
  refine ⟨_, ot_exchange0 hG hR hW ha hb, ot_YR_places hR (fun q h1 h2 => ?_) (fun c hc => ?_) (fun c hc => ?_), fun q h1 h2 => ?_⟩
  · rw [jv_up_ne _ _ _ h2, jv_up_ne _ _ _ h1, jv_up_ne _ _ _ h2, jv_up_ne _ _ _ h1]
  · have e := ye_where hR hc
    unfold ot_swapF
    simp only [jv_up_def]
    rw [if_neg (by omega), if_pos trivial]
    by_cases c1 : c = b
    · rw [if_pos c1, if_pos c1]
    · rw [if_neg c1, if_neg c1, if_neg (by omega), if_pos trivial]
      by_cases c2 : c = a
      · rw [if_pos c2, if_pos c2]
      · rw [if_neg c2, if_neg c2]; exact e
  · have e := ye_who hR hc
    unfold ot_swapF
    simp only [jv_up_def]
    rw [if_pos trivial]
    by_cases c1 : c = b
    · rw [if_pos c1, if_pos rfl, c1]
    · rw [if_neg c1]
      by_cases c2 : c = a
      · rw [if_pos c2]
        rw [if_neg (fun z => c1 (by rw [c2]; exact (yw_inj hW hb ha z).symm)), if_neg (by omega), if_pos trivial, if_pos rfl, c2]
      · rw [if_neg c2, if_neg (fun z => c2 (yw_inj hW hc ha z)), if_neg (by omega), if_pos trivial, if_neg (fun z => c1 (yw_inj hW hc hb z)), if_neg (by omega)]
        exact e
  · rw [jv_up_ne _ _ _ h2, jv_up_ne _ _ _ h1, jv_up_ne _ _ _ h2, jv_up_ne _ _ _ h1]
/-- on the way: c has come to p, as far as the others know -/
def ot_way (I I0 : jv_I) (y : Nat) (Y : ot_Y) (c p : Nat) : Prop := (∀ e, e < Y 10 0 → e ≠ c → I (y + 3) e = nI (ot_moveF (Y 2) c p e) ∧ I (y + 4) (ot_moveF (Y 2) c p e) = nI e) ∧ ∀ q, q ≠ y + 3 → q ≠ y + 4 → I q = I0 q
theorem ot_moveF_home {f : Nat → Nat} {c e : Nat} (h : e ≠ c) : ot_moveF f c (f c) e = f e := by
  unfold ot_moveF
  rw [if_neg h, if_neg (by omega), if_neg (by omega)]
theorem ot_moveF_self {f : Nat → Nat} {c p : Nat} : ot_moveF f c p c = p := if_pos rfl
theorem ot_moveF_up {f : Nat → Nat} {c p e : Nat} (he : e ≠ c) (hp : f c ≤ p) : ot_moveF f c (p + 1) e = if f e = p + 1 then p else ot_moveF f c p e := by
  unfold ot_moveF
  rw [if_neg he, if_neg he]
  repeat' split
  all_goals omega
theorem ot_moveF_down {f : Nat → Nat} {c p e : Nat} (he : e ≠ c) (hp : p + 1 ≤ f c) : ot_moveF f c p e = if f e = p then p + 1 else ot_moveF f c (p + 1) e := by
  unfold ot_moveF
  rw [if_neg he, if_neg he]
  repeat' split
  all_goals omega
theorem ot_way_step {I I0 : jv_I} {y : Nat} {Y : ot_Y} {c p p2 e1 : Nat} (h : ot_way I I0 y Y c p) (hW : ot_YW Y) (hc : c < Y 10 0) (hp : p < Y 10 0) (he1 : e1 < Y 10 0) (hne : e1 ≠ c) (h1 : ot_moveF (Y 2) c p2 e1 = p) (h2 : ∀ e, e < Y 10 0 → e ≠ c → e ≠ e1 → ot_moveF (Y 2) c p2 e = ot_moveF (Y 2) c p e) :
    ot_way (jv_up (jv_up I (y + 3) e1 (nI p)) (y + 4) p (nI e1)) I0 y Y c p2 := by
  have hWm := ot_YW_move hW hc hp
  refine ⟨fun e he hec => ?_, fun q q1 q2 => by rw [jv_up_ne _ _ _ q2, jv_up_ne _ _ _ q1]; exact h.2 q q1 q2⟩
  simp only [jv_up_def]
  by_cases hee : e = e1
  · subst hee
    rw [h1, if_neg (by omega), if_pos trivial, if_pos rfl, if_pos trivial, if_pos rfl]
    exact ⟨rfl, rfl⟩
  · obtain ⟨a1, a2⟩ := h.1 e he hec
    rw [h2 e he hec hee]
    rw [if_neg (by omega), if_pos trivial, if_neg hee, if_pos trivial, if_neg ?_, if_neg (by omega)]
    · exact ⟨a1, a2⟩
    · intro z
      have z2 : ot_move Y c p 2 e = ot_move Y c p 2 c := by
        show ot_moveF (Y 2) c p e = ot_moveF (Y 2) c p c
        rw [z, ot_moveF_self]
      exact hec (yw_inj hWm (show e < ot_move Y c p 10 0 from he) (show c < ot_move Y c p 10 0 from hc) z2)
theorem ot_way_end {I I0 : jv_I} {y : Nat} {Y : ot_Y} {c p : Nat} (hR : ot_YR I0 y Y) (h : ot_way I I0 y Y c p) (hW : ot_YW Y) (hc : c < Y 10 0) (hp : p < Y 10 0) : ot_YR (jv_up (jv_up I (y + 3) c (nI p)) (y + 4) p (nI c)) y (ot_move Y c p) := by
  have hWm := ot_YW_move hW hc hp
  refine ot_YR_places hR (fun q q1 q2 => by rw [jv_up_ne _ _ _ q2, jv_up_ne _ _ _ q1]; exact h.2 q q1 q2) (fun e he => ?_) (fun e he => ?_)
  · simp only [jv_up_def]
    rw [if_neg (by omega), if_pos trivial]
    by_cases hec : e = c
    · rw [if_pos hec, hec, ot_moveF_self]
    · rw [if_neg hec]; exact (h.1 e he hec).1
  · simp only [jv_up_def]
    rw [if_pos trivial]
    by_cases hec : e = c
    · rw [hec, ot_moveF_self, if_pos rfl]
    · rw [if_neg, if_neg (by omega)]
      · exact (h.1 e he hec).2
      · intro z
        have z2 : ot_move Y c p 2 e = ot_move Y c p 2 c := by
          show ot_moveF (Y 2) c p e = ot_moveF (Y 2) c p c
          rw [z, ot_moveF_self]
        exact hec (yw_inj hWm (show e < ot_move Y c p 10 0 from he) (show c < ot_move Y c p 10 0 from hc) z2)
set_option maxRecDepth 20000 in
theorem ot_shiftM {G : jv_Gr} {I : jv_I} {J : jv_J} {y : Nat} {Y : ot_Y} (hG : ot_YG G y) (hR : ot_YR I y Y) (hW : ot_YW Y) {c t : Nat} (hc : c < Y 10 0) (ht : t < Y 10 0) : ∃ I2, jv_C 2 mX3_shift [.ref y, .int (nI c), .int (nI t)] G I J none G I2 J ∧ ot_YR I2 y (ot_move Y c t) ∧ ∀ q, q ≠ y + 3 → q ≠ y + 4 → I2 q = I q := by
  have bn := yw_n hW
  have bc := yw_c hW
  have bw := yw_w hW
  have qc := yw_child hW hc
  have fin : ∀ (I1 : jv_I) (v : Value), ot_way I1 I y Y c t → ∃ I2, jv_V 2 mX3_shift 67 [.ref y, .int (nI c), .int (nI t), .int (nI (Y 2 c)), v] [] G I1 J none G I2 J ∧ ot_YR I2 y (ot_move Y c t) ∧ ∀ q, q ≠ y + 3 → q ≠ y + 4 → I2 q = I q := by
    intro I1 v hw
    refine ⟨jv_up (jv_up I1 (y + 3) c (nI t)) (y + 4) t (nI c), ?_, ot_way_end hR hw hW hc ht, fun q h1 h2 => ?_⟩
    · refine jv_aload0 dX3_shift_67 ?_
      refine jv_iload1 dX3_shift_68 ?_
      refine jv_iload2 dX3_shift_69 ?_
      refine jv_v20 dX3_shift_70 okX3_stand inX3_stand seX3_stand mlX3_72 (ci := 3) (T := TX3) (N := 15) rfl (yk hG) (ot_standM hG (by omega) (by omega)) (by decide) (Nat.le_of_ble_eq_true rfl) ?_
      exact jv_vret dX3_shift_73 rfl rfl rfl rfl
    · rw [jv_up_ne _ _ _ h2, jv_up_ne _ _ _ h1]; exact hw.2 q h1 h2
  have down : ∀ (n p : Nat) (I1 : jv_I), p ≤ t + n → t ≤ p → p ≤ Y 2 c → ot_way I1 I y Y c p → ∃ I2, jv_V 2 mX3_shift 40 [.ref y, .int (nI c), .int (nI t), .int (nI (Y 2 c)), .int (nI p)] [] G I1 J none G I2 J ∧ ot_YR I2 y (ot_move Y c t) ∧ ∀ q, q ≠ y + 3 → q ≠ y + 4 → I2 q = I q := by
    intro n
    induction n with
    | zero =>
      intro p I1 h1 h2 h3 hw
      have e : p = t := by omega
      subst e
      obtain ⟨I2, hV, hR2, hF⟩ := fin I1 (.int (nI p)) hw
      refine ⟨I2, ?_, hR2, hF⟩
      refine jv_iload4 dX3_shift_40 ?_
      refine jv_iload2 dX3_shift_42 ?_
      refine jv_icmp_leN dX3_shift_43 (tgt := 67) (by decide) (by omega) (by omega) (fun h43 => ?_) (fun h43 => by omega)
      exact hV
    | succ n ih =>
      intro p I1 h1 h2 h3 hw
      by_cases hpt : p = t
      · subst hpt
        obtain ⟨I2, hV, hR2, hF⟩ := fin I1 (.int (nI p)) hw
        refine ⟨I2, ?_, hR2, hF⟩
        refine jv_iload4 dX3_shift_40 ?_
        refine jv_iload2 dX3_shift_42 ?_
        refine jv_icmp_leN dX3_shift_43 (tgt := 67) (by decide) (by omega) (by omega) (fun h43 => ?_) (fun h43 => by omega)
        exact hV
      · obtain ⟨e1, he1, hpl⟩ := ot_who hW (show p - 1 < Y 10 0 by omega)
        have hne : e1 ≠ c := fun z => by rw [z] at hpl; omega
        obtain ⟨p', rfl⟩ : ∃ p', p = p' + 1 := ⟨p - 1, by omega⟩
        rw [Nat.add_sub_cancel] at hpl
        have w0 := (hw.1 e1 he1 hne).2
        have m1 : ot_moveF (Y 2) c (p' + 1) e1 = p' := by
          unfold ot_moveF
          rw [if_neg hne, if_neg (by omega), if_neg (by omega)]
          exact hpl
        rw [m1] at w0
        have w1 : I1 (y + 4) (p' + 1 - 1) = nI e1 := w0
        have hw2 := ot_way_step (p2 := p') hw hW hc (by omega) he1 hne (by rw [ot_moveF_down hne (by omega), if_pos hpl]) (fun e he hec hee => by
          rw [ot_moveF_down hec (by omega), if_neg (fun z => hee (yw_inj hW he he1 (by rw [z, hpl])))])
        obtain ⟨I2, hV, hR2, hF⟩ := ih p' _ (by omega) (by omega) (by omega) hw2
        refine ⟨I2, ?_, hR2, hF⟩
        refine jv_iload4 dX3_shift_40 ?_
        refine jv_iload2 dX3_shift_42 ?_
        refine jv_icmp_leN dX3_shift_43 (tgt := 67) (by decide) (by omega) (by omega) (fun h43 => by omega) (fun h43 => ?_)
        refine jv_aload0 dX3_shift_46 ?_
        refine jv_aload0 dX3_shift_47 ?_
        refine jv_getR dX3_shift_48 flX3_25 rfl (yk hG) (yr_who hG) ?_
        refine jv_iload4 dX3_shift_51 ?_
        refine jv_iconst dX3_shift_53 jv_c_iconst_1 ?_
        refine jv_isubN dX3_shift_54 (by omega) ?_
        refine jv_ialdN dX3_shift_55 (yk_who hG) (by omega) (by decide) w1 ?_
        refine jv_iload4 dX3_shift_56 ?_
        refine jv_v20 dX3_shift_58 okX3_stand inX3_stand seX3_stand mlX3_72 (ci := 3) (T := TX3) (N := 15) rfl (yk hG) (ot_standM hG (by omega) (by omega)) (by decide) (Nat.le_of_ble_eq_true rfl) ?_
        refine jv_iinc4D dX3_shift_61 rfl ?_
        refine jv_goto dX3_shift_64 (tgt := 40) (by decide) ?_
        exact hV
  have upx : ∀ (p : Nat) (I1 : jv_I), t ≤ p → Y 2 c ≤ p → (p ≤ t ∨ p = Y 2 c) → ot_way I1 I y Y c p → ∃ I2, jv_V 2 mX3_shift 10 [.ref y, .int (nI c), .int (nI t), .int (nI (Y 2 c)), .int (nI p)] [] G I1 J none G I2 J ∧ ot_YR I2 y (ot_move Y c t) ∧ ∀ q, q ≠ y + 3 → q ≠ y + 4 → I2 q = I q := by
    intro p I1 h1 h2 h3 hw
    have key : ∃ I2, jv_V 2 mX3_shift 40 [.ref y, .int (nI c), .int (nI t), .int (nI (Y 2 c)), .int (nI (Y 2 c))] [] G I1 J none G I2 J ∧ ot_YR I2 y (ot_move Y c t) ∧ ∀ q, q ≠ y + 3 → q ≠ y + 4 → I2 q = I q := by
      by_cases hh : p = Y 2 c
      · rw [hh] at hw
        exact down (Y 2 c) (Y 2 c) I1 (by omega) (by omega) (by omega) hw
      · have e : p = t := by omega
        subst e
        obtain ⟨I2, hV, hR2, hF⟩ := fin I1 (.int (nI (Y 2 c))) hw
        refine ⟨I2, ?_, hR2, hF⟩
        refine jv_iload4 dX3_shift_40 ?_
        refine jv_iload2 dX3_shift_42 ?_
        refine jv_icmp_leN dX3_shift_43 (tgt := 67) (by decide) (by omega) (by omega) (fun h43 => ?_) (fun h43 => by omega)
        exact hV
    obtain ⟨I2, hV, hR2, hF⟩ := key
    refine ⟨I2, ?_, hR2, hF⟩
    refine jv_iload4 dX3_shift_10 ?_
    refine jv_iload2 dX3_shift_12 ?_
    refine jv_icmp_geN dX3_shift_13 (tgt := 37) (by decide) (by omega) (by omega) (fun h13 => ?_) (fun h13 => by omega)
    refine jv_iload3 dX3_shift_37 ?_
    refine jv_istore4 dX3_shift_38 rfl ?_
    exact hV
  have up : ∀ (n p : Nat) (I1 : jv_I), t ≤ p + n → Y 2 c ≤ p → (p ≤ t ∨ p = Y 2 c) → ot_way I1 I y Y c p → ∃ I2, jv_V 2 mX3_shift 10 [.ref y, .int (nI c), .int (nI t), .int (nI (Y 2 c)), .int (nI p)] [] G I1 J none G I2 J ∧ ot_YR I2 y (ot_move Y c t) ∧ ∀ q, q ≠ y + 3 → q ≠ y + 4 → I2 q = I q := by
    intro n
    induction n with
    | zero => exact fun p I1 h1 h2 h3 hw => upx p I1 (by omega) h2 h3 hw
    | succ n ih =>
      intro p I1 h1 h2 h3 hw
      by_cases hpt : t ≤ p
      · exact upx p I1 hpt h2 h3 hw
      · obtain ⟨e1, he1, hpl⟩ := ot_who hW (show p + 1 < Y 10 0 by omega)
        have hne : e1 ≠ c := fun z => by rw [z] at hpl; omega
        have w0 := (hw.1 e1 he1 hne).2
        have m1 : ot_moveF (Y 2) c p e1 = p + 1 := by
          unfold ot_moveF
          rw [if_neg hne, if_neg (by omega), if_neg (by omega)]
          exact hpl
        rw [m1] at w0
        have w1 : I1 (y + 4) (p + 1) = nI e1 := w0
        have hw2 := ot_way_step (p2 := p + 1) hw hW hc (by omega) he1 hne (by rw [ot_moveF_up hne (by omega), if_pos hpl]) (fun e he hec hee => by
          rw [ot_moveF_up hec (by omega), if_neg (fun z => hee (yw_inj hW he he1 (by rw [z, hpl])))])
        obtain ⟨I2, hV, hR2, hF⟩ := ih (p + 1) _ (by omega) (by omega) (by omega) hw2
        refine ⟨I2, ?_, hR2, hF⟩
        refine jv_iload4 dX3_shift_10 ?_
        refine jv_iload2 dX3_shift_12 ?_
        refine jv_icmp_geN dX3_shift_13 (tgt := 37) (by decide) (by omega) (by omega) (fun h13 => by omega) (fun h13 => ?_)
        refine jv_aload0 dX3_shift_16 ?_
        refine jv_aload0 dX3_shift_17 ?_
        refine jv_getR dX3_shift_18 flX3_25 rfl (yk hG) (yr_who hG) ?_
        refine jv_iload4 dX3_shift_21 ?_
        refine jv_iconst dX3_shift_23 jv_c_iconst_1 ?_
        refine jv_iaddN dX3_shift_24 ?_
        refine jv_ialdN dX3_shift_25 (yk_who hG) (by omega) (by decide) w1 ?_
        refine jv_iload4 dX3_shift_26 ?_
        refine jv_v20 dX3_shift_28 okX3_stand inX3_stand seX3_stand mlX3_72 (ci := 3) (T := TX3) (N := 15) rfl (yk hG) (ot_standM hG (by omega) (by omega)) (by decide) (Nat.le_of_ble_eq_true rfl) ?_
        refine jv_iinc4N dX3_shift_31 rfl ?_
        refine jv_goto dX3_shift_34 (tgt := 10) (by decide) ?_
        exact hV
  have w00 : ot_way I I y Y c (Y 2 c) := ⟨fun e he hec => by rw [ot_moveF_home hec]; exact ⟨ye_where hR he, ye_who hR he⟩, fun _ _ _ => rfl⟩
  obtain ⟨I2, hV, hR2, hF⟩ := up t (Y 2 c) I (by omega) (by omega) (Or.inr rfl) w00
  refine ⟨I2, ?_, hR2, hF⟩
  refine jv_enter okX3_shift (L := [.ref y, .int (nI c), .int (nI t), .null, .null]) rfl (Nat.le_of_ble_eq_true rfl) ?_
  refine jv_aload0 dX3_shift_0 ?_
  refine jv_getR dX3_shift_1 flX3_22 rfl (yk hG) (yr_where hG) ?_
  refine jv_iload1 dX3_shift_4 ?_
  refine jv_ialdN dX3_shift_5 (yk_where hG) (by omega) (by decide) (ye_where hR (by omega)) ?_
  refine jv_istore3 dX3_shift_6 rfl ?_
  refine jv_iload3 dX3_shift_7 ?_
  refine jv_istore4 dX3_shift_8 rfl ?_
  exact hV
