/-! ===== rows over the abstract heap ===== -/
/-- a class: its number, name, fields, their types -/
def jv_cl (ci : Nat) (C : String) (T : u_T) (N : Nat) (ty : Nat → FieldType) : Prop :=
  vwCl[ci]? = some (C, T, N) ∧ jv_nf ci = N ∧ (∀ w ∈ u_ws C T N, w ∈ lw_tg) ∧ (∀ k, k < N → parseFieldDescriptor (T k).2.2.1 = some (ty k)) ∧ (∀ a, a < N → ∀ b, b < N → a ≠ b → (T a).2.1 ≠ (T b).2.1) ∧ (∀ k, k < N → (T k).1 = C) ∧ Cond.instantiable C N ∈ lw_tg ∧ Cond.initialized C ∈ lw_tg ∧ (∀ k, k < N → defaultValue (ty k) = if jv_isr ci k = true then .null else .int 0)
/-- field k of class ci, as the pool of 'own' has it at idx -/
def jv_fl (own : String) (idx ci k : Nat) (ty : FieldType) (fin : Bool) : Prop := ∃ (C : String) (T : u_T) (N : Nat) (ty0 : Nat → FieldType), jv_cl ci C T N ty0 ∧ k < N ∧ Cond.fieldLink own idx C (T k).2.1 (T k).2.2.1 ∈ lw_tg ∧ ty0 k = ty ∧ (T k).2.2.2 = fin
theorem jv_E_obj {cA : Nat → ClassId} {ad : Nat → Nat} {G : jv_Gr} {I : jv_I} {J : jv_J} {a ci n : Nat} (h : jv_k G a = (ci + 10, n)) : jv_E cA ad G I J a = .inr (ci, jv_fs ad G I ci a) := by
  have h1 : (jv_k G a).1 = ci + 10 := by rw [h]
  unfold jv_E
  rw [h1, if_neg (by omega), if_neg (by omega), if_neg (by omega), if_neg (by omega), Nat.add_sub_cancel]
theorem jv_E_0 {cA : Nat → ClassId} {ad : Nat → Nat} {G : jv_Gr} {I : jv_I} {J : jv_J} {a n : Nat} (h : jv_k G a = (0, n)) : jv_E cA ad G I J a = .inl (cA 0, n, .inl (I a)) := by
  unfold jv_E; rw [h, if_pos rfl]
theorem jv_E_1 {cA : Nat → ClassId} {ad : Nat → Nat} {G : jv_Gr} {I : jv_I} {J : jv_J} {a n : Nat} (h : jv_k G a = (1, n)) : jv_E cA ad G I J a = .inl (cA 1, n, .inr (.inl (J a))) := by
  unfold jv_E; rw [h, if_neg (show ¬ (1 : Nat) = 0 by decide), if_pos rfl]
theorem jv_E_2 {cA : Nat → ClassId} {ad : Nat → Nat} {G : jv_Gr} {I : jv_I} {J : jv_J} {a n : Nat} (h : jv_k G a = (2, n)) : jv_E cA ad G I J a = .inl (cA 2, n, .inr (.inr (.inr (.inr (fun j => jv_o ad (jv_r G a j)))))) := by
  unfold jv_E; rw [h, if_neg (show ¬ (2 : Nat) = 0 by decide), if_neg (show ¬ (2 : Nat) = 1 by decide), if_pos rfl]
theorem jv_E_3 {cA : Nat → ClassId} {ad : Nat → Nat} {G : jv_Gr} {I : jv_I} {J : jv_J} {a n : Nat} (h : jv_k G a = (3, n)) : jv_E cA ad G I J a = .inl (cA 3, n, .inr (.inr (.inr (.inr (fun j => jv_o ad (jv_r G a j)))))) := by
  unfold jv_E; rw [h, if_neg (show ¬ (3 : Nat) = 0 by decide), if_neg (show ¬ (3 : Nat) = 1 by decide), if_neg (show ¬ (3 : Nat) = 2 by decide), if_pos rfl]
theorem jv_fs_at {ad : Nat → Nat} {G : jv_Gr} {I : jv_I} {c a k : Nat} (h : k < jv_nf c) : (jv_fs ad G I c a)[k]? = some (jv_f ad G I c a k) := by
  unfold jv_fs
  rw [List.getElem?_map, List.getElem?_range h]
  rfl
theorem jv_fs_len (ad : Nat → Nat) (G : jv_Gr) (I : jv_I) (c a : Nat) : (jv_fs ad G I c a).length = jv_nf c := by simp [jv_fs]
theorem jv_fs_set {ad : Nat → Nat} {G G2 : jv_Gr} {I I2 : jv_I} {c a k : Nat} {v : Value} (hk : k < jv_nf c) (hv : jv_f ad G2 I2 c a k = v) (ho : ∀ j, j ≠ k → jv_f ad G2 I2 c a j = jv_f ad G I c a j) : (jv_fs ad G I c a).set k v = jv_fs ad G2 I2 c a := by
  refine List.ext_getElem? fun j => ?_
  by_cases hj : j = k
  · subst hj
    rw [List.getElem?_set_self (by rw [jv_fs_len]; exact hk), jv_fs_at hk, hv]
  · rw [List.getElem?_set_ne (Ne.symm hj)]
    by_cases hl : j < jv_nf c
    · rw [jv_fs_at hl, jv_fs_at hl, ho j hj]
    · rw [List.getElem?_eq_none (by rw [jv_fs_len]; omega), List.getElem?_eq_none (by rw [jv_fs_len]; omega)]
theorem jv_mr {ad : Nat → Nat} {a : Nat} {S : List Value} (h : a ≠ 0) : (Value.ref a :: S).map (jv_v ad) = .ref (ad a) :: S.map (jv_v ad) := by rw [List.map_cons, jv_v_ref ad h]
theorem jv_cats (ad : Nat → Nat) (S : List Value) : ((S.map (jv_v ad)).map fun v => v.category).sum = (S.map fun v => v.category).sum := by
  rw [List.map_map]
  congr 1
  apply List.map_congr_left
  intro v _
  exact jv_v_cat ad v
theorem jv_up_self {α : Type} (f : Nat → Nat → α) (a k : Nat) (v : α) : jv_up f a k v a = fun j => if j = k then v else f a j := by funext j; simp [jv_up]
theorem jv_up_ne {α : Type} (f : Nat → Nat → α) {a b : Nat} (k : Nat) (v : α) (h : b ≠ a) : jv_up f a k v b = f b := by funext j; simp [jv_up, h]
theorem jv_up_at {α : Type} (f : Nat → Nat → α) (a k : Nat) (v : α) : jv_up f a k v a k = v := by simp [jv_up]
theorem jv_up_at_ne {α : Type} (f : Nat → Nat → α) (a : Nat) {k j : Nat} (v : α) (h : j ≠ k) : jv_up f a k v a j = f a j := by simp [jv_up, h]
/-- cells other than a don't see a write of an int, of a long, of a reference there -/
theorem jv_E_I {cA : Nat → ClassId} {ad : Nat → Nat} {G : jv_Gr} {I I2 : jv_I} {J J2 : jv_J} {b : Nat} (hI : I2 b = I b) (hJ : J2 b = J b) : jv_E cA ad G I2 J2 b = jv_E cA ad G I J b := by
  have hf : jv_fs ad G I2 ((jv_k G b).1 - 10) b = jv_fs ad G I ((jv_k G b).1 - 10) b := by
    unfold jv_fs
    apply List.map_congr_left
    intro k _
    unfold jv_f
    rw [hI]
  unfold jv_E
  rw [hf, hI, hJ]
theorem jv_E_r {cA : Nat → ClassId} {ad : Nat → Nat} {G : jv_Gr} {I : jv_I} {J : jv_J} {a k r b : Nat} (h : b ≠ a) : jv_E cA ad (jv_sr G a k r) I J b = jv_E cA ad G I J b := by
  have hr : ∀ j, jv_r (jv_sr G a k r) b j = jv_r G b j := fun j => by
    show jv_up G.2.2.2 a k r b j = G.2.2.2 b j
    rw [jv_up_ne _ _ _ h]
  have hf : jv_fs ad (jv_sr G a k r) I ((jv_k G b).1 - 10) b = jv_fs ad G I ((jv_k G b).1 - 10) b := by
    unfold jv_fs
    apply List.map_congr_left
    intro k _
    unfold jv_f
    rw [hr]
  unfold jv_E
  rw [jv_k_up, hf]
  simp only [hr]
theorem jv_hpI {s : State} {H H1 : Heap} {locs locs1 : List Loc} {ad : Nat → Nat} {base : Nat} {D : va_G} {cA : Nat → ClassId} {adS : Nat → Nat} {G : jv_Gr} {I I2 : jv_I} {J J2 : jv_J} (T : jv_Hp s H locs ad base D cA adS G I J) {a : Nat} {e : va_E} (ha : a ≠ 0 ∧ a ≤ jv_n G) (he : jv_E cA ad G I2 J2 a = e) (hI : ∀ b, b ≠ a → I2 b = I b) (hJ : ∀ b, b ≠ a → J2 b = J b)
    (h1 : va_P D vwCl ((jv_W cA ad G I J).set (a - 1) (ad a, e)) H1) (h2 : va_D (fun q => base ≤ q) ((jv_W cA ad G I J).set (a - 1) (ad a, e))) (h3 : va_S (fun q => base ≤ q) s.heap H1 locs1) : jv_Hp s H1 locs1 ad base D cA adS G I2 J2 := by
  rw [← he, jv_W_set (G2 := G) (I2 := I2) (J2 := J2) ha rfl (fun b hb => jv_E_I (hI b hb) (hJ b hb))] at h1 h2
  exact ⟨T.1, T.2.1, h1, h2, h3⟩
section JVH
variable {d pc : Nat} {M : jv_M} {L S : List Value} {G G' : jv_Gr} {I I' : jv_I} {J J' : jv_J} {r : Option Value}
theorem jv_getI {idx ci k a n : Nat} {ty : FieldType} {fin : Bool} (hd : decode M.2.1 pc = .ok (.getfield idx, 3)) (hf : jv_fl M.1.cls idx ci k ty fin) (hr : jv_isr ci k = false) (ha : jv_k G a = (ci + 10, n)) {v : Int32} (hv : I a k = v) (h : jv_V d M (pc + 3) L (.int v :: S) G I J r G' I' J') : jv_V d M pc L (.ref a :: S) G I J r G' I' J' := by
  subst hv
  refine ⟨h.1, fun p l e R s m args below meth c H locs cells slots ls ad base D cA adS mc ms C T1 T2 T3 => ?_⟩
  have hk := h.2 p l e R s m args below meth c H locs cells slots ls ad base D cA adS mc ms C T1 T2 T3
  obtain ⟨Cn, T, N, ty0, ⟨c1, c2, c3, c4, c5, c6, -⟩, hkN, hlk, -, -⟩ := hf
  obtain ⟨hx, hb, -, -, -, -, hown, hts, -, hK, -⟩ := C
  have hci : ci < 6 := (List.getElem?_eq_some_iff.mp c1).1
  obtain ⟨hn0, hle⟩ := jv_k_in ha (by omega)
  rw [jv_mr hn0]
  have he := jv_W_at (cA := cA) (ad := ad) (I := I) (J := J) ⟨hn0, hle⟩
  rw [jv_E_obj ha] at he
  refine va_get (own := M.1.cls) (ref := Cn) (C := Cn) (T := T) (N := N) (ci := ci) hx hb hts c3 hown hK T1.2.2.1 (a - 1) he c1 k hkN (hts _ hlk) (fun x h => by rw [c6 k hkN] at h; exact h) (v := .int (I a k)) ?_ hd hk
  rw [jv_fs_at (by rw [c2]; exact hkN)]
  unfold jv_f
  rw [hr]; rfl
theorem jv_getR {idx ci k a n : Nat} {ty : FieldType} {fin : Bool} (hd : decode M.2.1 pc = .ok (.getfield idx, 3)) (hf : jv_fl M.1.cls idx ci k ty fin) (hr : jv_isr ci k = true) (ha : jv_k G a = (ci + 10, n)) {b : Nat} (hv : jv_r G a k = b) (h : jv_V d M (pc + 3) L (.ref b :: S) G I J r G' I' J') : jv_V d M pc L (.ref a :: S) G I J r G' I' J' := by
  subst hv
  refine ⟨h.1, fun p l e R s m args below meth c H locs cells slots ls ad base D cA adS mc ms C T1 T2 T3 => ?_⟩
  have hk := h.2 p l e R s m args below meth c H locs cells slots ls ad base D cA adS mc ms C T1 T2 T3
  obtain ⟨Cn, T, N, ty0, ⟨c1, c2, c3, c4, c5, c6, -⟩, hkN, hlk, -, -⟩ := hf
  obtain ⟨hx, hb, -, -, -, -, hown, hts, -, hK, -⟩ := C
  have hci : ci < 6 := (List.getElem?_eq_some_iff.mp c1).1
  obtain ⟨hn0, hle⟩ := jv_k_in ha (by omega)
  rw [jv_mr hn0]
  have he := jv_W_at (cA := cA) (ad := ad) (I := I) (J := J) ⟨hn0, hle⟩
  rw [jv_E_obj ha] at he
  refine va_get (own := M.1.cls) (ref := Cn) (C := Cn) (T := T) (N := N) (ci := ci) hx hb hts c3 hown hK T1.2.2.1 (a - 1) he c1 k hkN (hts _ hlk) (fun x h => by rw [c6 k hkN] at h; exact h) (v := jv_v ad (.ref (jv_r G a k))) ?_ hd hk
  rw [jv_fs_at (by rw [c2]; exact hkN)]
  unfold jv_f
  rw [hr]; rfl
theorem jv_putI {idx ci k a n : Nat} {ty : FieldType} {x : Int32} (hd : decode M.2.1 pc = .ok (.putfield idx, 3)) (hf : jv_fl M.1.cls idx ci k ty false) (hr : jv_isr ci k = false) (ha : jv_k G a = (ci + 10, n)) (hn : narrow ty (.int x) = .int x) (hfit : fits ty (.int x) = true) (h : jv_V d M (pc + 3) L S G (jv_up I a k x) J r G' I' J') : jv_V d M pc L (.int x :: .ref a :: S) G I J r G' I' J' := by
  refine ⟨h.1, fun p l e R s m args below meth c H locs cells slots ls ad base D cA adS mc ms C T1 T2 T3 => ?_⟩
  have hk := fun H locs T => h.2 p l e R s m args below meth c H locs cells slots ls ad base D cA adS mc ms C T T2 T3
  obtain ⟨Cn, T, N, ty0, ⟨c1, c2, c3, c4, c5, c6, -⟩, hkN, hlk, hty, hfn⟩ := hf
  obtain ⟨hx, hb, -, -, -, -, hown, hts, -, hK, -⟩ := C
  have hci : ci < 6 := (List.getElem?_eq_some_iff.mp c1).1
  obtain ⟨hn0, hle⟩ := jv_k_in ha (by omega)
  rw [List.map_cons, jv_mr hn0]
  have he := jv_W_at (cA := cA) (ad := ad) (I := I) (J := J) ⟨hn0, hle⟩
  rw [jv_E_obj ha] at he
  refine va_put (own := M.1.cls) (ref := Cn) (C := Cn) (T := T) (N := N) (ci := ci) (ty := ty) (v := .int x) hx hb hts c3 ty0 c4 c5 hown hK T1.2.2.1 T1.2.2.2.1 T1.2.2.2.2 (a - 1) he c1 k hkN (hts _ hlk) (fun x h => by rw [c6 k hkN] at h; exact h) hfn (by rw [c4 k hkN, hty]) hn hfit (by rw [jv_fs_len, c2]; exact hkN) hd (fun H1 locs1 h1 h2 h3 => hk H1 locs1 (jv_hpI T1 ⟨hn0, hle⟩ ?_ (fun b hb => jv_up_ne _ _ _ hb) (fun _ _ => rfl) h1 h2 h3))
  rw [jv_E_obj ha, jv_fs_set (by rw [c2]; exact hkN) (G2 := G) (I2 := jv_up I a k x) ?_ ?_]
  · unfold jv_f
    rw [hr, jv_up_at]; rfl
  · intro j hj
    unfold jv_f
    rw [jv_up_at_ne _ _ _ hj]
theorem jv_hpR {s : State} {H H1 : Heap} {locs locs1 : List Loc} {ad : Nat → Nat} {base : Nat} {D : va_G} {cA : Nat → ClassId} {adS : Nat → Nat} {a k b : Nat} {e : va_E} (T : jv_Hp s H locs ad base D cA adS G I J) (ha : a ≠ 0 ∧ a ≤ jv_n G) (hb : b ≤ jv_n G) (he : jv_E cA ad (jv_sr G a k b) I J a = e)
    (h1 : va_P D vwCl ((jv_W cA ad G I J).set (a - 1) (ad a, e)) H1) (h2 : va_D (fun q => base ≤ q) ((jv_W cA ad G I J).set (a - 1) (ad a, e))) (h3 : va_S (fun q => base ≤ q) s.heap H1 locs1) : jv_Hp s H1 locs1 ad base D cA adS (jv_sr G a k b) I J := by
  rw [← he, jv_W_set (G2 := jv_sr G a k b) (I2 := I) (J2 := J) ha rfl (fun b hb => jv_E_r hb)] at h1 h2
  exact ⟨T.1, jv_gw_sr T.2.1 hb, h1, h2, h3⟩
theorem jv_putR0 {idx ci k a b n : Nat} {ty : FieldType} {fin : Bool} (hfin : fin = true → M.1.name = "<init>" ∧ ∀ C T N ty0, jv_cl ci C T N ty0 → M.1.cls = C) (hd : decode M.2.1 pc = .ok (.putfield idx, 3)) (hf : jv_fl M.1.cls idx ci k ty fin) (hr : jv_isr ci k = true) (ha : jv_k G a = (ci + 10, n)) (hb0 : b ≤ jv_n G) (hn : ∀ v, (v = .null ∨ ∃ q, v = .ref q) → narrow ty v = v ∧ fits ty v = true) (h : jv_V d M (pc + 3) L S (jv_sr G a k b) I J r G' I' J') : jv_V d M pc L (.ref b :: .ref a :: S) G I J r G' I' J' := by
  refine ⟨h.1, fun p l e R s m args below meth c H locs cells slots ls ad base D cA adS mc ms C T1 T2 T3 => ?_⟩
  have hk := fun H locs T => h.2 p l e R s m args below meth c H locs cells slots ls ad base D cA adS mc ms C T T2 T3
  obtain ⟨Cn, T, N, ty0, ⟨c1, c2, c3, c4, c5, c6, c7⟩, hkN, hlk, hty, hfn⟩ := hf
  obtain ⟨hx, hb, -, -, -, hnm, hown, hts, -, hK, -⟩ := C
  have hci : ci < 6 := (List.getElem?_eq_some_iff.mp c1).1
  obtain ⟨hn0, hle⟩ := jv_k_in ha (by omega)
  have hvv : jv_v ad (.ref b) = .null ∨ ∃ q, jv_v ad (.ref b) = .ref q := by
    by_cases hz : b = 0
    · subst hz; exact Or.inl rfl
    · exact Or.inr ⟨_, jv_v_ref ad hz⟩
  obtain ⟨hn1, hn2⟩ := hn _ hvv
  rw [List.map_cons, jv_mr hn0]
  have he := jv_W_at (cA := cA) (ad := ad) (I := I) (J := J) ⟨hn0, hle⟩
  rw [jv_E_obj ha] at he
  have hEE : jv_E cA ad (jv_sr G a k b) I J a = .inr (ci, (jv_fs ad G I ci a).set k (jv_v ad (.ref b))) := by
    rw [jv_E_obj (G := jv_sr G a k b) ha, jv_fs_set (by rw [c2]; exact hkN) (G2 := jv_sr G a k b) (I2 := I) ?_ ?_]
    · unfold jv_f
      rw [hr]
      show va_rf (jv_o ad (jv_up G.2.2.2 a k b a k)) = _
      rw [jv_up_at]; rfl
    · intro j hj
      unfold jv_f
      show (if jv_isr ci j = true then va_rf (jv_o ad (jv_up G.2.2.2 a k b a j)) else Value.int (I a j)) = _
      rw [jv_up_at_ne _ _ _ hj]; rfl
  cases fin with
  | false => exact va_put (own := M.1.cls) (ref := Cn) (C := Cn) (T := T) (N := N) (ci := ci) (ty := ty) (v := jv_v ad (.ref b)) hx hb hts c3 ty0 c4 c5 hown hK T1.2.2.1 T1.2.2.2.1 T1.2.2.2.2 (a - 1) he c1 k hkN (hts _ hlk) (fun x h => by rw [c6 k hkN] at h; exact h) hfn (by rw [c4 k hkN, hty]) hn1 hn2 (by rw [jv_fs_len, c2]; exact hkN) hd (fun H1 locs1 h1 h2 h3 => hk H1 locs1 (jv_hpR T1 ⟨hn0, hle⟩ hb0 hEE h1 h2 h3))
  | true => exact va_putF (own := M.1.cls) (ref := Cn) (C := Cn) (T := T) (N := N) (ci := ci) (ty := ty) (v := jv_v ad (.ref b)) hx hb hts c3 ty0 c4 c5 hown hK T1.2.2.1 T1.2.2.2.1 T1.2.2.2.2 (a - 1) he c1 k hkN (hts _ hlk) (fun x h => by rw [c6 k hkN] at h; exact h) hfn (by rw [hnm]; exact (hfin rfl).1) (by rw [c6 k hkN]; exact ((hfin rfl).2 Cn T N ty0 ⟨c1, c2, c3, c4, c5, c6, c7⟩).symm) (by rw [c4 k hkN, hty]) hn1 hn2 (by rw [jv_fs_len, c2]; exact hkN) hd (fun H1 locs1 h1 h2 h3 => hk H1 locs1 (jv_hpR T1 ⟨hn0, hle⟩ hb0 hEE h1 h2 h3))
end JVH
