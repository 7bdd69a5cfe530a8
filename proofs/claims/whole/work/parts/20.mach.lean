/-! ===== an abstract heap: cells 1 .. n by their numbers (0: null), a graph (how many, their slots, kinds, references) beside what the int and long places hold ===== -/
def lw_tg : List Cond := lw_tbl.filter goodWord
theorem lw_tg_in {w : Cond} (h : w ∈ lw_tbl) (hg : goodWord w = true) : w ∈ lw_tg := List.mem_filter.mpr ⟨h, hg⟩
theorem lw_tg_good : ∀ w ∈ lw_tg, w ∈ lw_tbl ∧ ((w.onTables && w.keeps) = true ∨ ∃ ty, w = .arrayClass ty) := fun w h => ⟨(List.mem_filter.mp h).1, good_of_word (List.mem_filter.mp h).2⟩
abbrev jv_Gr : Type := Nat × Nat × (Nat → Nat × Nat) × (Nat → Nat → Nat)
def jv_n (G : jv_Gr) : Nat := G.1
def jv_s (G : jv_Gr) : Nat := G.2.1
def jv_k (G : jv_Gr) (a : Nat) : Nat × Nat := if a = 0 ∨ G.1 < a then (99, 0) else G.2.2.1 a
def jv_r (G : jv_Gr) (a k : Nat) : Nat := G.2.2.2 a k
abbrev jv_I : Type := Nat → Nat → Int32
abbrev jv_J : Type := Nat → Nat → Int64
def jv_up {α : Type} (f : Nat → Nat → α) (a k : Nat) (v : α) : Nat → Nat → α := fun b j => if b = a then (if j = k then v else f b j) else f b j
def jv_pa {α : Type} (f : Nat → Nat → α) (a : Nat) (g : Nat → α) : Nat → Nat → α := fun b => if b = a then g else f b
def jv_sr (G : jv_Gr) (a k r : Nat) : jv_Gr := (G.1, G.2.1, G.2.2.1, jv_up G.2.2.2 a k r)
/-- one cell more: its kind, its slots -/
def jv_nw (G : jv_Gr) (k : Nat × Nat) (sl : Nat) : jv_Gr := (G.1 + 1, G.2.1 + sl, fun a => if a = G.1 + 1 then k else G.2.2.1 a, fun a j => if a = G.1 + 1 then 0 else G.2.2.2 a j)
def jv_zI (I : jv_I) (a : Nat) : jv_I := fun b j => if b = a then 0 else I b j
def jv_zJ (J : jv_J) (a : Nat) : jv_J := fun b j => if b = a then 0 else J b j
def jv_o (ad : Nat → Nat) (r : Nat) : Option Nat := if r = 0 then none else some (ad r)
def jv_v (ad : Nat → Nat) : Value → Value
  | .ref r => va_rf (jv_o ad r)
  | v => v
theorem jv_v_int (ad : Nat → Nat) (x : Int32) : jv_v ad (.int x) = .int x := rfl
theorem jv_v_long (ad : Nat → Nat) (x : Int64) : jv_v ad (.long x) = .long x := rfl
theorem jv_v_ref (ad : Nat → Nat) {a : Nat} (h : a ≠ 0) : jv_v ad (.ref a) = .ref (ad a) := by
  show va_rf (jv_o ad a) = _
  rw [jv_o, if_neg h]; rfl
theorem jv_v_cat (ad : Nat → Nat) (v : Value) : (jv_v ad v).category = v.category := by
  cases v with
  | ref r =>
    show (va_rf (jv_o ad r)).category = 1
    unfold jv_o
    split <;> rfl
  | _ => rfl
/-- which fields hold references -/
def jv_isr (c k : Nat) : Bool := match c with
  | 0 => true
  | 1 => k == 2
  | 2 => k == 0
  | 3 => !(k == 0 || k == 5 || k == 9 || k == 14)
  | 4 => !(k == 7)
  | _ => !(k == 7 || k == 9 || k == 13 || k == 17 || k == 22 || k == 25 || k == 26 || k == 27 || k == 28 || k == 29 || k == 31 || k == 32)
def jv_nf (c : Nat) : Nat := match c with
  | 0 => 6
  | 1 => 3
  | 2 => 5
  | 3 => 15
  | 4 => 8
  | _ => 35
def jv_f (ad : Nat → Nat) (G : jv_Gr) (I : jv_I) (c a k : Nat) : Value := if jv_isr c k = true then va_rf (jv_o ad (jv_r G a k)) else .int (I a k)
def jv_fs (ad : Nat → Nat) (G : jv_Gr) (I : jv_I) (c a : Nat) : List Value := (List.range (jv_nf c)).map (jv_f ad G I c a)
/-- a cell, by its kind: 0 int[], 1 long[], 2 Shelf[], 3 long[][], 10 and the number of its class -/
def jv_E (cA : Nat → ClassId) (ad : Nat → Nat) (G : jv_Gr) (I : jv_I) (J : jv_J) (a : Nat) : va_E :=
  if (jv_k G a).1 = 0 then .inl (cA 0, (jv_k G a).2, .inl (I a))
  else if (jv_k G a).1 = 1 then .inl (cA 1, (jv_k G a).2, .inr (.inl (J a)))
  else if (jv_k G a).1 = 2 then .inl (cA 2, (jv_k G a).2, .inr (.inr (.inr (.inr (fun j => jv_o ad (jv_r G a j))))))
  else if (jv_k G a).1 = 3 then .inl (cA 3, (jv_k G a).2, .inr (.inr (.inr (.inr (fun j => jv_o ad (jv_r G a j))))))
  else .inr ((jv_k G a).1 - 10, jv_fs ad G I ((jv_k G a).1 - 10) a)
def jv_W (cA : Nat → ClassId) (ad : Nat → Nat) (G : jv_Gr) (I : jv_I) (J : jv_J) : va_W := (List.range (jv_n G)).map (fun k => (ad (k + 1), jv_E cA ad G I J (k + 1)))
theorem jv_k_in {G : jv_Gr} {a t n : Nat} (h : jv_k G a = (t, n)) (ht : t ≠ 99) : a ≠ 0 ∧ a ≤ jv_n G := by
  unfold jv_k at h
  split at h
  · cases h; exact absurd rfl ht
  · rename_i q
    exact ⟨fun z => q (Or.inl z), Nat.not_lt.mp fun z => q (Or.inr z)⟩
theorem jv_W_at {cA : Nat → ClassId} {ad : Nat → Nat} {G : jv_Gr} {I : jv_I} {J : jv_J} {a : Nat} (h : a ≠ 0 ∧ a ≤ jv_n G) : (jv_W cA ad G I J)[a - 1]? = some (ad a, jv_E cA ad G I J a) := by
  have h1 : a - 1 < jv_n G := by omega
  have h2 : a - 1 + 1 = a := by omega
  unfold jv_W
  rw [List.getElem?_map, List.getElem?_range h1]
  show some (ad (a - 1 + 1), jv_E cA ad G I J (a - 1 + 1)) = _
  rw [h2]
theorem jv_W_len (cA : Nat → ClassId) (ad : Nat → Nat) (G : jv_Gr) (I : jv_I) (J : jv_J) : (jv_W cA ad G I J).length = jv_n G := by simp [jv_W]
/-- one cell has changed -/
theorem jv_W_set {cA : Nat → ClassId} {ad : Nat → Nat} {G G2 : jv_Gr} {I I2 : jv_I} {J J2 : jv_J} {a : Nat} (h : a ≠ 0 ∧ a ≤ jv_n G) (hn : jv_n G2 = jv_n G) (hE : ∀ b, b ≠ a → jv_E cA ad G2 I2 J2 b = jv_E cA ad G I J b) : (jv_W cA ad G I J).set (a - 1) (ad a, jv_E cA ad G2 I2 J2 a) = jv_W cA ad G2 I2 J2 := by
  refine List.ext_getElem? fun k => ?_
  by_cases hk : k = a - 1
  · subst hk
    rw [List.getElem?_set_self (by rw [jv_W_len]; omega), jv_W_at (by rw [hn]; exact h)]
  · rw [List.getElem?_set_ne (Ne.symm hk)]
    by_cases hl : k < jv_n G
    · have e1 := jv_W_at (cA := cA) (ad := ad) (G := G) (I := I) (J := J) (a := k + 1) ⟨by omega, by omega⟩
      have e2 := jv_W_at (cA := cA) (ad := ad) (G := G2) (I := I2) (J := J2) (a := k + 1) ⟨by omega, by omega⟩
      rw [Nat.add_sub_cancel] at e1 e2
      rw [e1, e2, hE (k + 1) (by omega)]
    · rw [List.getElem?_eq_none (by rw [jv_W_len]; omega), List.getElem?_eq_none (by rw [jv_W_len]; omega)]
theorem jv_k_up (G : jv_Gr) (a k r b : Nat) : jv_k (jv_sr G a k r) b = jv_k G b := rfl
theorem jv_k_old {G : jv_Gr} {b sl : Nat} {k : Nat × Nat} (h : b ≤ jv_n G) : jv_k (jv_nw G k sl) b = jv_k G b := by
  have h' : b ≤ G.1 := h
  unfold jv_k jv_nw
  by_cases h0 : b = 0
  · simp [h0]
  · rw [if_neg (by omega), if_neg (by show ¬ (b = 0 ∨ G.1 < b); omega)]
    show (if b = G.1 + 1 then k else G.2.2.1 b) = _
    rw [if_neg (by omega)]
theorem jv_k_new {G : jv_Gr} {sl : Nat} {k : Nat × Nat} : jv_k (jv_nw G k sl) (jv_n G + 1) = k := by
  unfold jv_k jv_nw jv_n
  rw [if_neg (by show ¬ (G.1 + 1 = 0 ∨ G.1 + 1 < G.1 + 1); omega)]
  show (if G.1 + 1 = G.1 + 1 then k else _) = k
  rw [if_pos rfl]
theorem jv_r_old {G : jv_Gr} {b sl j : Nat} {k : Nat × Nat} (h : b ≤ jv_n G) : jv_r (jv_nw G k sl) b j = jv_r G b j := by
  have h' : b ≤ G.1 := h
  show (if b = G.1 + 1 then 0 else G.2.2.2 b j) = G.2.2.2 b j
  rw [if_neg (by omega)]
theorem jv_r_new {G : jv_Gr} {sl j : Nat} {k : Nat × Nat} : jv_r (jv_nw G k sl) (jv_n G + 1) j = 0 := by
  show (if G.1 + 1 = G.1 + 1 then 0 else G.2.2.2 _ j) = 0
  rw [if_pos rfl]
/-- the heap's references stay within what there is -/
def jv_gw (G : jv_Gr) : Prop := ∀ b j, b ≤ jv_n G → jv_r G b j ≤ jv_n G
theorem jv_o_eq {ad ad' : Nat → Nat} {r : Nat} (h : ad' r = ad r) : jv_o ad' r = jv_o ad r := by unfold jv_o; rw [h]
theorem jv_E_ad {cA : Nat → ClassId} {ad ad' : Nat → Nat} {G : jv_Gr} {I : jv_I} {J : jv_J} {b : Nat} (h : ∀ j, ad' (jv_r G b j) = ad (jv_r G b j)) : jv_E cA ad' G I J b = jv_E cA ad G I J b := by
  have ho : ∀ j, jv_o ad' (jv_r G b j) = jv_o ad (jv_r G b j) := fun j => jv_o_eq (h j)
  have hf : jv_fs ad' G I ((jv_k G b).1 - 10) b = jv_fs ad G I ((jv_k G b).1 - 10) b := by
    unfold jv_fs
    apply List.map_congr_left
    intro k _
    unfold jv_f
    rw [ho]
  unfold jv_E
  rw [hf]
  simp only [ho]
theorem jv_E_new {cA : Nat → ClassId} {ad : Nat → Nat} {G : jv_Gr} {I : jv_I} {J : jv_J} {b sl : Nat} {k : Nat × Nat} {I2 : jv_I} {J2 : jv_J} (h : b ≤ jv_n G) (hI : I2 b = I b) (hJ : J2 b = J b) : jv_E cA ad (jv_nw G k sl) I2 J2 b = jv_E cA ad G I J b := by
  have hr : ∀ j, jv_r (jv_nw G k sl) b j = jv_r G b j := fun j => jv_r_old h
  have hf : jv_fs ad (jv_nw G k sl) I2 ((jv_k G b).1 - 10) b = jv_fs ad G I ((jv_k G b).1 - 10) b := by
    unfold jv_fs
    apply List.map_congr_left
    intro k _
    unfold jv_f
    rw [hr, hI]
  unfold jv_E
  rw [jv_k_old h, hf, hI, hJ]
  simp only [hr]
/-- a cell is made -/
theorem jv_W_new {cA : Nat → ClassId} {ad ad2 : Nat → Nat} {G : jv_Gr} {I I2 : jv_I} {J J2 : jv_J} {sl : Nat} {k : Nat × Nat} (hg : jv_gw G) (had : ∀ b, b ≤ jv_n G → ad2 b = ad b) (hI : ∀ b, b ≤ jv_n G → I2 b = I b) (hJ : ∀ b, b ≤ jv_n G → J2 b = J b) : jv_W cA ad2 (jv_nw G k sl) I2 J2 = jv_W cA ad G I J ++ [(ad2 (jv_n G + 1), jv_E cA ad2 (jv_nw G k sl) I2 J2 (jv_n G + 1))] := by
  unfold jv_W
  have hn : jv_n (jv_nw G k sl) = jv_n G + 1 := rfl
  rw [hn, List.range_succ, List.map_append]
  congr 1
  apply List.map_congr_left
  intro b hb
  have hb' : b + 1 ≤ jv_n G := List.mem_range.mp hb
  rw [had _ hb', jv_E_new hb' (hI _ hb') (hJ _ hb'), jv_E_ad (fun j => had _ (hg _ j hb'))]
theorem jv_gw_new {G : jv_Gr} {sl : Nat} {k : Nat × Nat} (h : jv_gw G) : jv_gw (jv_nw G k sl) := by
  intro b j hb
  have hn : jv_n (jv_nw G k sl) = jv_n G + 1 := rfl
  rw [hn] at hb ⊢
  by_cases hb2 : b ≤ jv_n G
  · rw [jv_r_old hb2]
    exact Nat.le_succ_of_le (h b j hb2)
  · rw [show b = jv_n G + 1 by omega, jv_r_new]
    exact Nat.zero_le _
theorem jv_gw_sr {G : jv_Gr} {a k r : Nat} (h : jv_gw G) (hr : r ≤ jv_n G) : jv_gw (jv_sr G a k r) := by
  intro b j hb
  show jv_up G.2.2.2 a k r b j ≤ jv_n G
  unfold jv_up
  split
  · split
    · exact hr
    · exact h b j hb
  · exact h b j hb
/-! ===== what a method stands on, and the judgement: from this place the method returns r, the heap then being G' I' J' ===== -/
def jv_tys (cA : Nat → ClassId) : List (ClassId × FieldType) := [(cA 0, .int), (cA 1, .long), (cA 2, .object RX1), (cA 3, .array .long)]
def jv_under (j : Nat) : Int32 := match j with
  | 0 => -1
  | 1 => 0
  | 2 => 0
  | 3 => 0
  | 4 => 1
  | _ => 3
def jv_len : List Nat := [5, 5, 4, 7, 4, 4]
def jv_byt : List (List Int32) := [[99, 104, 105, 108, 100], [99, 111, 117, 110, 116], [119, 105, 116, 104], [119, 105, 116, 104, 111, 117, 116], [115, 119, 97, 112], [109, 111, 118, 101]]
def jv_strs : List (String × Nat × String × Nat) := ([(RX2, 53, "child", 0), (RX2, 67, "count", 1), (RX2, 75, "with", 2), (RX2, 84, "without", 3), (RX2, 86, "swap", 4), (RX2, 91, "move", 5), (RX5, 205, "child", 0), (RX5, 211, "count", 1), (RX5, 213, "with", 2), (RX5, 218, "without", 3), (RX5, 220, "swap", 4), (RX5, 225, "move", 5)] : List (String × Nat × String × Nat))
def jv_nests : List (String × Nat × MethodName × String) := ([(RX4, 9, yX3_init, RX4), (RX4, 33, yX2_init, RX4), (RX4, 52, yX1_init, RX4), (RX1, 22, yX4_within, RX4), (RX3, 64, yX4_within, RX4), (RX2, 49, yX4_within, RX4)] : List (String × Nat × MethodName × String))
/-- what was there before the law began, and stays: a static array, the texts, the nest's links -/
def jv_env (base : Nat) (adS : Nat → Nat) (U : State) : Prop :=
  va_Z RX4 "UNDER" "[I" (.ref (adS 100)) (fun q => base ≤ q) U U.heap ∧ va_T .int (adS 100) 6 (fun j => .int (jv_under j)) (fun q => base ≤ q) U U.heap ∧
  va_Z RJ0 "COMPACT_STRINGS" "Z" (.int 1) (fun q => base ≤ q) U U.heap ∧
  vk_S 6 jv_len jv_byt adS (fun i => adS (200 + i)) (fun q => base ≤ q) U U.heap ∧
  (∀ q ∈ jv_strs, vk_R q.1 q.2.1 q.2.2.1 (adS q.2.2.2) U) ∧
  (∀ q ∈ jv_nests, va_Nw (.methodLinkNest q.1 q.2.1 q.2.2.1 q.2.2.2) U) ∧
  va_AO RX1 U ∧ (Cond.arrayOver (.array .long)).before #[] U = true ∧
  (va_Z RJ3 "SIOOBE_FORMATTER" "Ljava/util/function/BiFunction;" .null (fun q => base ≤ q) U U.heap ∨ va_Z RJ3 "SIOOBE_FORMATTER" "Ljava/util/function/BiFunction;" (.ref (adS 300)) (fun q => base ≤ q) U U.heap)
abbrev jv_M : Type := MethodName × ByteArray × Nat × Option FieldType
def jv_Cx (p : Program) (s : State) (m : MethodId) (args : Array Value) (meth : Method) (c : Code) (M : jv_M) (base : Nat) (D : va_G) (cA : Nat → ClassId) (adS : Nat → Nat) : Prop :=
  p.tables.exec = Jvm.exec ∧ c.code = M.2.1 ∧ c.maxLocals = M.2.2.1 ∧ meth.sig.returnType = M.2.2.2 ∧ meth.locks = false ∧ meth.name = M.1.name ∧ s.vm.findClass M.1.cls = some m.cls ∧ (∀ w ∈ lw_tg, w.before args s = true) ∧ base ≤ s.heap.size ∧ va_K D vwCl (jv_tys cA) s ∧ jv_env base adS s
def jv_Hp (s : State) (H : Heap) (locs : List Loc) (ad : Nat → Nat) (base : Nat) (D : va_G) (cA : Nat → ClassId) (adS : Nat → Nat) (G : jv_Gr) (I : jv_I) (J : jv_J) : Prop :=
  (∀ k, ad (1000000 + k) = adS k) ∧ jv_gw G ∧ va_P D vwCl (jv_W cA ad G I J) H ∧ va_D (fun q => base ≤ q) (jv_W cA ad G I J) ∧ va_S (fun q => base ≤ q) s.heap H locs
def jv_Rm (R : Room) (cells slots mc ms d : Nat) (G G' : jv_Gr) : Prop := d ≤ R.frames ∧ 40 * d ≤ R.locals ∧ mc ≤ R.cells ∧ ms ≤ R.slots ∧ cells + jv_n G' ≤ mc + jv_n G ∧ slots + jv_s G' ≤ ms + jv_s G
/-- the locals: .null: nothing that counts (a long's second place, one that isn't set) -/
def jv_L (ad : Nat → Nat) (ls : Array Slot) (nL : Nat) (L : List Value) : Prop := L.length = nL ∧ ls.size = nL ∧ lv_wf ls ∧ ∀ (i : Nat) (v : Value), L[i]? = some v → v ≠ .null → ls[i]? = some (.val (jv_v ad v))
def jv_Q (base : Nat) (D : va_G) (cA : Nat → ClassId) (ad : Nat → Nat) (n0 : Nat) (r : Option Value) (G' : jv_Gr) (I' : jv_I) (J' : jv_J) : Array Value → State → Outcome → State → Prop := fun _ st oc t =>
  (∃ ad' : Nat → Nat, (∀ k, (k ≤ n0 ∨ jv_n G' < k) → ad' k = ad k) ∧ jv_gw G' ∧ oc = .returned (r.map (jv_v ad')) ∧ va_P D vwCl (jv_W cA ad' G' I' J') t.heap ∧ va_D (fun q => base ≤ q) (jv_W cA ad' G' I' J')) ∧ va_F (fun q => base ≤ q) st t
def jv_V (d : Nat) (M : jv_M) (pc : Nat) (L S : List Value) (G : jv_Gr) (I : jv_I) (J : jv_J) (r : Option Value) (G' : jv_Gr) (I' : jv_I) (J' : jv_J) : Prop :=
  (jv_n G ≤ jv_n G' ∧ jv_s G ≤ jv_s G') ∧
  ∀ (p : Program) (l : Launch) (e : Env) (R : Room) (s : State) (m : MethodId) (args : Array Value) (below : List Frame) (meth : Method) (c : Code) (H : Heap) (locs : List Loc) (cells slots : Nat) (ls : Array Slot) (ad : Nat → Nat) (base : Nat) (D : va_G) (cA : Nat → ClassId) (adS : Nat → Nat) (mc ms : Nat),
    jv_Cx p s m args meth c M base D cA adS → jv_Hp s H locs ad base D cA adS G I J → jv_L ad ls M.2.2.1 L → jv_Rm R cells slots mc ms d G G' →
    W p l e R s m args below meth c H locs cells slots (MQ below (jv_Q base D cA ad (jv_n G) r G' I' J') args s mc ms (fun q => base ≤ q)) (F0 m pc ls (S.map (jv_v ad)))
theorem jv_L.at {ad : Nat → Nat} {ls : Array Slot} {nL : Nat} {L : List Value} (h : jv_L ad ls nL L) {i : Nat} {v : Value} (hi : L[i]? = some v) (hv : v ≠ .null) : ls[i]? = some (.val (jv_v ad v)) := h.2.2.2 i v hi hv
/-- the locals as the kit's rows want them -/
def jv_lv (ad : Nat → Nat) (L : List Value) : List (Nat × Value) := (List.range L.length).filterMap (fun i => if L.getD i .null = .null then none else some (i, jv_v ad (L.getD i .null)))
theorem jv_lv_in {ad : Nat → Nat} {L : List Value} {i : Nat} {v : Value} (hi : L[i]? = some v) (hv : v ≠ .null) : (i, jv_v ad v) ∈ jv_lv ad L := by
  have hd : L.getD i .null = v := by rw [List.getD_eq_getElem?_getD, hi]; rfl
  refine List.mem_filterMap.mpr ⟨i, List.mem_range.mpr (List.getElem?_eq_some_iff.mp hi).1, ?_⟩
  rw [hd, if_neg hv]
theorem jv_L.has {ad : Nat → Nat} {ls : Array Slot} {nL : Nat} {L : List Value} (h : jv_L ad ls nL L) : lv_has ls nL (jv_lv ad L) := by
  refine ⟨h.2.1, h.2.2.1, fun q hq => ?_⟩
  obtain ⟨i, hi, he⟩ := List.mem_filterMap.mp hq
  have hl := List.mem_range.mp hi
  have hg : L[i]? = some (L.getD i .null) := by rw [List.getD_eq_getElem?_getD, List.getElem?_eq_getElem hl]; rfl
  by_cases hn : L.getD i .null = .null
  · rw [if_pos hn] at he; cases he
  · rw [if_neg hn] at he
    cases he
    exact h.at hg hn
/-- the local ahead of place i holds one word -/
def jv_c1 (L : List Value) (i : Nat) : Prop := ∀ (j : Nat) (w : Value), j + 1 = i → L[j]? = some w → w.category = 1
theorem jv_L.put1 {ad : Nat → Nat} {ls ls' : Array Slot} {nL : Nat} {L : List Value} {i : Nat} {v : Value} (h : jv_L ad ls nL L) (hc : jv_c1 L i) (hv : v ≠ .null) (hi : i < nL)
    (h2 : lv_has ls' nL ((i, jv_v ad v) :: (jv_lv ad L).filter (fun q => !(q.1 == i) && !(q.1 + 1 == i && q.2.category == 2)))) : jv_L ad ls' nL (L.set i v) := by
  refine ⟨by rw [List.length_set]; exact h.1, h2.1, h2.2.1, fun j w hj hw => ?_⟩
  by_cases hji : j = i
  · subst hji
    rw [List.getElem?_set_self (by rw [h.1]; exact hi)] at hj
    cases hj
    exact h2.2.2 _ List.mem_cons_self
  · rw [List.getElem?_set_ne (Ne.symm hji)] at hj
    refine h2.2.2 (j, jv_v ad w) (List.mem_cons_of_mem _ (List.mem_filter.mpr ⟨jv_lv_in hj hw, ?_⟩))
    have h1 : (j == i) = false := by simpa using hji
    by_cases h3 : j + 1 = i
    · have h4 : (jv_v ad w).category = 1 := by rw [jv_v_cat]; exact hc j w h3 hj
      simp [h1, h4]
    · simp [h1, h3]
theorem jv_L.put2 {ad : Nat → Nat} {ls ls' : Array Slot} {nL : Nat} {L : List Value} {i : Nat} {v : Value} (h : jv_L ad ls nL L) (hc : jv_c1 L i) (hv : v ≠ .null) (hi : i + 1 < nL)
    (h2 : lv_has ls' nL ((i, jv_v ad v) :: (jv_lv ad L).filter (fun q => !(q.1 == i) && (!(q.1 == i + 1) && !(q.1 + 1 == i && q.2.category == 2))))) : jv_L ad ls' nL ((L.set i v).set (i + 1) .null) := by
  refine ⟨by rw [List.length_set, List.length_set]; exact h.1, h2.1, h2.2.1, fun j w hj hw => ?_⟩
  by_cases hj2 : j = i + 1
  · subst hj2
    rw [List.getElem?_set_self (by rw [List.length_set, h.1]; exact hi)] at hj
    cases hj
    exact absurd rfl hw
  · rw [List.getElem?_set_ne (Ne.symm hj2)] at hj
    by_cases hji : j = i
    · subst hji
      rw [List.getElem?_set_self (by rw [h.1]; omega)] at hj
      cases hj
      exact h2.2.2 _ List.mem_cons_self
    · rw [List.getElem?_set_ne (Ne.symm hji)] at hj
      refine h2.2.2 (j, jv_v ad w) (List.mem_cons_of_mem _ (List.mem_filter.mpr ⟨jv_lv_in hj hw, ?_⟩))
      have h1 : (j == i) = false := by simpa using hji
      have h5 : (j == i + 1) = false := by simpa using hj2
      by_cases h3 : j + 1 = i
      · have h4 : (jv_v ad w).category = 1 := by rw [jv_v_cat]; exact hc j w h3 hj
        simp [h1, h4, h5]
      · simp [h1, h3, h5]
theorem jv_c1_0 {L : List Value} : jv_c1 L 0 := fun j w hj _ => by omega
theorem jv_c1_s {L : List Value} {i : Nat} {v : Value} (h : L[i]? = some v) (hc : v.category = 1) : jv_c1 L (i + 1) := fun j w hj hw => by
  obtain rfl : j = i := by omega
  rw [h] at hw
  cases hw
  exact hc
theorem jv_iconst {d pc : Nat} {M : jv_M} {L S : List Value} {G G' : jv_Gr} {I I' : jv_I} {J J' : jv_J} {r : Option Value} {n : Int} {v : Int32} (hd : decode M.2.1 pc = .ok (.iconst n, 1)) (hv : Int32.ofInt n = v) (h : jv_V d M (pc + 1) L (.int v :: S) G I J r G' I' J') : jv_V d M pc L S G I J r G' I' J' := ⟨h.1, fun p l e R s m args below meth c H locs cells slots ls ad base D cA adS mc ms C T1 T2 T3 => lv_iconst C.1 C.2.1 hd hv (h.2 p l e R s m args below meth c H locs cells slots ls ad base D cA adS mc ms C T1 T2 T3)⟩
theorem jv_bipush {d pc : Nat} {M : jv_M} {L S : List Value} {G G' : jv_Gr} {I I' : jv_I} {J J' : jv_J} {r : Option Value} {n : Int} {v : Int32} (hd : decode M.2.1 pc = .ok (.bipush n, 2)) (hv : (Int8.ofInt n).toInt32 = v) (h : jv_V d M (pc + 2) L (.int v :: S) G I J r G' I' J') : jv_V d M pc L S G I J r G' I' J' := ⟨h.1, fun p l e R s m args below meth c H locs cells slots ls ad base D cA adS mc ms C T1 T2 T3 => lv_bipush C.1 C.2.1 hd hv (h.2 p l e R s m args below meth c H locs cells slots ls ad base D cA adS mc ms C T1 T2 T3)⟩
theorem jv_sipush {d pc : Nat} {M : jv_M} {L S : List Value} {G G' : jv_Gr} {I I' : jv_I} {J J' : jv_J} {r : Option Value} {n : Int} {v : Int32} (hd : decode M.2.1 pc = .ok (.sipush n, 3)) (hv : (Int16.ofInt n).toInt32 = v) (h : jv_V d M (pc + 3) L (.int v :: S) G I J r G' I' J') : jv_V d M pc L S G I J r G' I' J' := ⟨h.1, fun p l e R s m args below meth c H locs cells slots ls ad base D cA adS mc ms C T1 T2 T3 => lv_sipush C.1 C.2.1 hd hv (h.2 p l e R s m args below meth c H locs cells slots ls ad base D cA adS mc ms C T1 T2 T3)⟩
theorem jv_lconst {d pc : Nat} {M : jv_M} {L S : List Value} {G G' : jv_Gr} {I I' : jv_I} {J J' : jv_J} {r : Option Value} {n : Fin 2} {v : Int64} (hd : decode M.2.1 pc = .ok (.lconst n, 1)) (hv : Int64.ofNat (n : Nat) = v) (h : jv_V d M (pc + 1) L (.long v :: S) G I J r G' I' J') : jv_V d M pc L S G I J r G' I' J' := ⟨h.1, fun p l e R s m args below meth c H locs cells slots ls ad base D cA adS mc ms C T1 T2 T3 => lv_lconst C.1 C.2.1 hd hv (h.2 p l e R s m args below meth c H locs cells slots ls ad base D cA adS mc ms C T1 T2 T3)⟩
theorem jv_iadd {d pc : Nat} {M : jv_M} {L S : List Value} {G G' : jv_Gr} {I I' : jv_I} {J J' : jv_J} {r : Option Value} {x y : Int32} (hd : decode M.2.1 pc = .ok (.iadd, 1))  (h : jv_V d M (pc + 1) L (.int (x + y) :: S) G I J r G' I' J') : jv_V d M pc L (.int y :: .int x :: S) G I J r G' I' J' := ⟨h.1, fun p l e R s m args below meth c H locs cells slots ls ad base D cA adS mc ms C T1 T2 T3 => lv_iadd C.1 C.2.1 hd  (h.2 p l e R s m args below meth c H locs cells slots ls ad base D cA adS mc ms C T1 T2 T3)⟩
theorem jv_isub {d pc : Nat} {M : jv_M} {L S : List Value} {G G' : jv_Gr} {I I' : jv_I} {J J' : jv_J} {r : Option Value} {x y : Int32} (hd : decode M.2.1 pc = .ok (.isub, 1))  (h : jv_V d M (pc + 1) L (.int (x - y) :: S) G I J r G' I' J') : jv_V d M pc L (.int y :: .int x :: S) G I J r G' I' J' := ⟨h.1, fun p l e R s m args below meth c H locs cells slots ls ad base D cA adS mc ms C T1 T2 T3 => lv_isub C.1 C.2.1 hd  (h.2 p l e R s m args below meth c H locs cells slots ls ad base D cA adS mc ms C T1 T2 T3)⟩
theorem jv_imul {d pc : Nat} {M : jv_M} {L S : List Value} {G G' : jv_Gr} {I I' : jv_I} {J J' : jv_J} {r : Option Value} {x y : Int32} (hd : decode M.2.1 pc = .ok (.imul, 1))  (h : jv_V d M (pc + 1) L (.int (x * y) :: S) G I J r G' I' J') : jv_V d M pc L (.int y :: .int x :: S) G I J r G' I' J' := ⟨h.1, fun p l e R s m args below meth c H locs cells slots ls ad base D cA adS mc ms C T1 T2 T3 => lv_imul C.1 C.2.1 hd  (h.2 p l e R s m args below meth c H locs cells slots ls ad base D cA adS mc ms C T1 T2 T3)⟩
theorem jv_iand {d pc : Nat} {M : jv_M} {L S : List Value} {G G' : jv_Gr} {I I' : jv_I} {J J' : jv_J} {r : Option Value} {x y : Int32} (hd : decode M.2.1 pc = .ok (.iand, 1))  (h : jv_V d M (pc + 1) L (.int (x &&& y) :: S) G I J r G' I' J') : jv_V d M pc L (.int y :: .int x :: S) G I J r G' I' J' := ⟨h.1, fun p l e R s m args below meth c H locs cells slots ls ad base D cA adS mc ms C T1 T2 T3 => lv_iand C.1 C.2.1 hd  (h.2 p l e R s m args below meth c H locs cells slots ls ad base D cA adS mc ms C T1 T2 T3)⟩
theorem jv_ior {d pc : Nat} {M : jv_M} {L S : List Value} {G G' : jv_Gr} {I I' : jv_I} {J J' : jv_J} {r : Option Value} {x y : Int32} (hd : decode M.2.1 pc = .ok (.ior, 1))  (h : jv_V d M (pc + 1) L (.int (x ||| y) :: S) G I J r G' I' J') : jv_V d M pc L (.int y :: .int x :: S) G I J r G' I' J' := ⟨h.1, fun p l e R s m args below meth c H locs cells slots ls ad base D cA adS mc ms C T1 T2 T3 => lv_ior C.1 C.2.1 hd  (h.2 p l e R s m args below meth c H locs cells slots ls ad base D cA adS mc ms C T1 T2 T3)⟩
theorem jv_ishl {d pc : Nat} {M : jv_M} {L S : List Value} {G G' : jv_Gr} {I I' : jv_I} {J J' : jv_J} {r : Option Value} {x y : Int32} (hd : decode M.2.1 pc = .ok (.ishl, 1))  (h : jv_V d M (pc + 1) L (.int (x <<< (y &&& 31)) :: S) G I J r G' I' J') : jv_V d M pc L (.int y :: .int x :: S) G I J r G' I' J' := ⟨h.1, fun p l e R s m args below meth c H locs cells slots ls ad base D cA adS mc ms C T1 T2 T3 => lv_ishl C.1 C.2.1 hd  (h.2 p l e R s m args below meth c H locs cells slots ls ad base D cA adS mc ms C T1 T2 T3)⟩
theorem jv_ishr {d pc : Nat} {M : jv_M} {L S : List Value} {G G' : jv_Gr} {I I' : jv_I} {J J' : jv_J} {r : Option Value} {x y : Int32} (hd : decode M.2.1 pc = .ok (.ishr, 1))  (h : jv_V d M (pc + 1) L (.int (x >>> (y &&& 31)) :: S) G I J r G' I' J') : jv_V d M pc L (.int y :: .int x :: S) G I J r G' I' J' := ⟨h.1, fun p l e R s m args below meth c H locs cells slots ls ad base D cA adS mc ms C T1 T2 T3 => lv_ishr C.1 C.2.1 hd  (h.2 p l e R s m args below meth c H locs cells slots ls ad base D cA adS mc ms C T1 T2 T3)⟩
theorem jv_iushr {d pc : Nat} {M : jv_M} {L S : List Value} {G G' : jv_Gr} {I I' : jv_I} {J J' : jv_J} {r : Option Value} {x y v : Int32} (hd : decode M.2.1 pc = .ok (.iushr, 1)) (hv : (x.toUInt32 >>> (y.toUInt32 &&& Int32.toUInt32 31)).toInt32 = v) (h : jv_V d M (pc + 1) L (.int v :: S) G I J r G' I' J') : jv_V d M pc L (.int y :: .int x :: S) G I J r G' I' J' := ⟨h.1, fun p l e R s m args below meth c H locs cells slots ls ad base D cA adS mc ms C T1 T2 T3 => lv_iushr C.1 C.2.1 hd hv (h.2 p l e R s m args below meth c H locs cells slots ls ad base D cA adS mc ms C T1 T2 T3)⟩
theorem jv_idiv {d pc : Nat} {M : jv_M} {L S : List Value} {G G' : jv_Gr} {I I' : jv_I} {J J' : jv_J} {r : Option Value} {x y : Int32} (hd : decode M.2.1 pc = .ok (.idiv, 1)) (hne : ¬ y = 0) (h : jv_V d M (pc + 1) L (.int (x / y) :: S) G I J r G' I' J') : jv_V d M pc L (.int y :: .int x :: S) G I J r G' I' J' := ⟨h.1, fun p l e R s m args below meth c H locs cells slots ls ad base D cA adS mc ms C T1 T2 T3 => lv_idiv C.1 C.2.1 hd hne (h.2 p l e R s m args below meth c H locs cells slots ls ad base D cA adS mc ms C T1 T2 T3)⟩
theorem jv_irem {d pc : Nat} {M : jv_M} {L S : List Value} {G G' : jv_Gr} {I I' : jv_I} {J J' : jv_J} {r : Option Value} {x y : Int32} (hd : decode M.2.1 pc = .ok (.irem, 1)) (hne : ¬ y = 0) (h : jv_V d M (pc + 1) L (.int (x - x / y * y) :: S) G I J r G' I' J') : jv_V d M pc L (.int y :: .int x :: S) G I J r G' I' J' := ⟨h.1, fun p l e R s m args below meth c H locs cells slots ls ad base D cA adS mc ms C T1 T2 T3 => lv_irem C.1 C.2.1 hd hne (h.2 p l e R s m args below meth c H locs cells slots ls ad base D cA adS mc ms C T1 T2 T3)⟩
theorem jv_ineg {d pc : Nat} {M : jv_M} {L S : List Value} {G G' : jv_Gr} {I I' : jv_I} {J J' : jv_J} {r : Option Value} {x : Int32} (hd : decode M.2.1 pc = .ok (.ineg, 1))  (h : jv_V d M (pc + 1) L (.int (-x) :: S) G I J r G' I' J') : jv_V d M pc L (.int x :: S) G I J r G' I' J' := ⟨h.1, fun p l e R s m args below meth c H locs cells slots ls ad base D cA adS mc ms C T1 T2 T3 => lv_ineg C.1 C.2.1 hd  (h.2 p l e R s m args below meth c H locs cells slots ls ad base D cA adS mc ms C T1 T2 T3)⟩
theorem jv_land {d pc : Nat} {M : jv_M} {L S : List Value} {G G' : jv_Gr} {I I' : jv_I} {J J' : jv_J} {r : Option Value} {x y : Int64} (hd : decode M.2.1 pc = .ok (.land, 1))  (h : jv_V d M (pc + 1) L (.long (x &&& y) :: S) G I J r G' I' J') : jv_V d M pc L (.long y :: .long x :: S) G I J r G' I' J' := ⟨h.1, fun p l e R s m args below meth c H locs cells slots ls ad base D cA adS mc ms C T1 T2 T3 => lv_land C.1 C.2.1 hd  (h.2 p l e R s m args below meth c H locs cells slots ls ad base D cA adS mc ms C T1 T2 T3)⟩
theorem jv_lor {d pc : Nat} {M : jv_M} {L S : List Value} {G G' : jv_Gr} {I I' : jv_I} {J J' : jv_J} {r : Option Value} {x y : Int64} (hd : decode M.2.1 pc = .ok (.lor, 1))  (h : jv_V d M (pc + 1) L (.long (x ||| y) :: S) G I J r G' I' J') : jv_V d M pc L (.long y :: .long x :: S) G I J r G' I' J' := ⟨h.1, fun p l e R s m args below meth c H locs cells slots ls ad base D cA adS mc ms C T1 T2 T3 => lv_lor C.1 C.2.1 hd  (h.2 p l e R s m args below meth c H locs cells slots ls ad base D cA adS mc ms C T1 T2 T3)⟩
theorem jv_ldiv {d pc : Nat} {M : jv_M} {L S : List Value} {G G' : jv_Gr} {I I' : jv_I} {J J' : jv_J} {r : Option Value} {x y : Int64} (hd : decode M.2.1 pc = .ok (.ldiv, 1)) (hne : ¬ y = 0) (h : jv_V d M (pc + 1) L (.long (x / y) :: S) G I J r G' I' J') : jv_V d M pc L (.long y :: .long x :: S) G I J r G' I' J' := ⟨h.1, fun p l e R s m args below meth c H locs cells slots ls ad base D cA adS mc ms C T1 T2 T3 => lv_ldiv C.1 C.2.1 hd hne (h.2 p l e R s m args below meth c H locs cells slots ls ad base D cA adS mc ms C T1 T2 T3)⟩
theorem jv_lrem {d pc : Nat} {M : jv_M} {L S : List Value} {G G' : jv_Gr} {I I' : jv_I} {J J' : jv_J} {r : Option Value} {x y : Int64} (hd : decode M.2.1 pc = .ok (.lrem, 1)) (hne : ¬ y = 0) (h : jv_V d M (pc + 1) L (.long (x - x / y * y) :: S) G I J r G' I' J') : jv_V d M pc L (.long y :: .long x :: S) G I J r G' I' J' := ⟨h.1, fun p l e R s m args below meth c H locs cells slots ls ad base D cA adS mc ms C T1 T2 T3 => lv_lrem C.1 C.2.1 hd hne (h.2 p l e R s m args below meth c H locs cells slots ls ad base D cA adS mc ms C T1 T2 T3)⟩
theorem jv_lcmp {d pc : Nat} {M : jv_M} {L S : List Value} {G G' : jv_Gr} {I I' : jv_I} {J J' : jv_J} {r : Option Value} {x y : Int64} (hd : decode M.2.1 pc = .ok (.lcmp, 1))  (h : jv_V d M (pc + 1) L (.int (lg_cmp x y) :: S) G I J r G' I' J') : jv_V d M pc L (.long y :: .long x :: S) G I J r G' I' J' := ⟨h.1, fun p l e R s m args below meth c H locs cells slots ls ad base D cA adS mc ms C T1 T2 T3 => W.lcmp C.1 C.2.1 hd  (h.2 p l e R s m args below meth c H locs cells slots ls ad base D cA adS mc ms C T1 T2 T3)⟩
theorem jv_lshl {d pc : Nat} {M : jv_M} {L S : List Value} {G G' : jv_Gr} {I I' : jv_I} {J J' : jv_J} {r : Option Value} {x v : Int64} {y : Int32} (hd : decode M.2.1 pc = .ok (.lshl, 1)) (hv : x <<< (y.toInt64 &&& 63) = v) (h : jv_V d M (pc + 1) L (.long v :: S) G I J r G' I' J') : jv_V d M pc L (.int y :: .long x :: S) G I J r G' I' J' := ⟨h.1, fun p l e R s m args below meth c H locs cells slots ls ad base D cA adS mc ms C T1 T2 T3 => lv_lshl C.1 C.2.1 hd hv (h.2 p l e R s m args below meth c H locs cells slots ls ad base D cA adS mc ms C T1 T2 T3)⟩
theorem jv_i2l {d pc : Nat} {M : jv_M} {L S : List Value} {G G' : jv_Gr} {I I' : jv_I} {J J' : jv_J} {r : Option Value} {x : Int32} {v : Int64} (hd : decode M.2.1 pc = .ok (.i2l, 1)) (hv : x.toInt64 = v) (h : jv_V d M (pc + 1) L (.long v :: S) G I J r G' I' J') : jv_V d M pc L (.int x :: S) G I J r G' I' J' := ⟨h.1, fun p l e R s m args below meth c H locs cells slots ls ad base D cA adS mc ms C T1 T2 T3 => lv_i2l C.1 C.2.1 hd hv (h.2 p l e R s m args below meth c H locs cells slots ls ad base D cA adS mc ms C T1 T2 T3)⟩
theorem jv_l2i {d pc : Nat} {M : jv_M} {L S : List Value} {G G' : jv_Gr} {I I' : jv_I} {J J' : jv_J} {r : Option Value} {x : Int64} {v : Int32} (hd : decode M.2.1 pc = .ok (.l2i, 1)) (hv : x.toInt32 = v) (h : jv_V d M (pc + 1) L (.int v :: S) G I J r G' I' J') : jv_V d M pc L (.long x :: S) G I J r G' I' J' := ⟨h.1, fun p l e R s m args below meth c H locs cells slots ls ad base D cA adS mc ms C T1 T2 T3 => lv_l2i C.1 C.2.1 hd hv (h.2 p l e R s m args below meth c H locs cells slots ls ad base D cA adS mc ms C T1 T2 T3)⟩
theorem jv_i2b {d pc : Nat} {M : jv_M} {L S : List Value} {G G' : jv_Gr} {I I' : jv_I} {J J' : jv_J} {r : Option Value} {x v : Int32} (hd : decode M.2.1 pc = .ok (.i2b, 1)) (hv : x.toInt8.toInt32 = v) (h : jv_V d M (pc + 1) L (.int v :: S) G I J r G' I' J') : jv_V d M pc L (.int x :: S) G I J r G' I' J' := ⟨h.1, fun p l e R s m args below meth c H locs cells slots ls ad base D cA adS mc ms C T1 T2 T3 => lv_i2b C.1 C.2.1 hd hv (h.2 p l e R s m args below meth c H locs cells slots ls ad base D cA adS mc ms C T1 T2 T3)⟩
theorem jv_i2s {d pc : Nat} {M : jv_M} {L S : List Value} {G G' : jv_Gr} {I I' : jv_I} {J J' : jv_J} {r : Option Value} {x v : Int32} (hd : decode M.2.1 pc = .ok (.i2s, 1)) (hv : x.toInt16.toInt32 = v) (h : jv_V d M (pc + 1) L (.int v :: S) G I J r G' I' J') : jv_V d M pc L (.int x :: S) G I J r G' I' J' := ⟨h.1, fun p l e R s m args below meth c H locs cells slots ls ad base D cA adS mc ms C T1 T2 T3 => lv_i2s C.1 C.2.1 hd hv (h.2 p l e R s m args below meth c H locs cells slots ls ad base D cA adS mc ms C T1 T2 T3)⟩
theorem jv_dup {d pc : Nat} {M : jv_M} {L S : List Value} {G G' : jv_Gr} {I I' : jv_I} {J J' : jv_J} {r : Option Value} {va : Value} (hd : decode M.2.1 pc = .ok (.dup, 1)) (hva : va.category = 1) (h : jv_V d M (pc + 1) L (va :: va :: S) G I J r G' I' J') : jv_V d M pc L (va :: S) G I J r G' I' J' := ⟨h.1, fun p l e R s m args below meth c H locs cells slots ls ad base D cA adS mc ms C T1 T2 T3 => lv_dup C.1 C.2.1 hd (by rw [jv_v_cat]; exact hva) (h.2 p l e R s m args below meth c H locs cells slots ls ad base D cA adS mc ms C T1 T2 T3)⟩
theorem jv_pop {d pc : Nat} {M : jv_M} {L S : List Value} {G G' : jv_Gr} {I I' : jv_I} {J J' : jv_J} {r : Option Value} {va : Value} (hd : decode M.2.1 pc = .ok (.pop, 1)) (hva : va.category = 1) (h : jv_V d M (pc + 1) L S G I J r G' I' J') : jv_V d M pc L (va :: S) G I J r G' I' J' := ⟨h.1, fun p l e R s m args below meth c H locs cells slots ls ad base D cA adS mc ms C T1 T2 T3 => lv_pop C.1 C.2.1 hd (by rw [jv_v_cat]; exact hva) (h.2 p l e R s m args below meth c H locs cells slots ls ad base D cA adS mc ms C T1 T2 T3)⟩
theorem jv_dup_x1 {d pc : Nat} {M : jv_M} {L S : List Value} {G G' : jv_Gr} {I I' : jv_I} {J J' : jv_J} {r : Option Value} {va vb : Value} (hd : decode M.2.1 pc = .ok (.dup_x1, 1)) (hva : va.category = 1) (hvb : vb.category = 1) (h : jv_V d M (pc + 1) L (va :: vb :: va :: S) G I J r G' I' J') : jv_V d M pc L (va :: vb :: S) G I J r G' I' J' := ⟨h.1, fun p l e R s m args below meth c H locs cells slots ls ad base D cA adS mc ms C T1 T2 T3 => lv_dup_x1 C.1 C.2.1 hd (by rw [jv_v_cat]; exact hva) (by rw [jv_v_cat]; exact hvb) (h.2 p l e R s m args below meth c H locs cells slots ls ad base D cA adS mc ms C T1 T2 T3)⟩
theorem jv_dup2 {d pc : Nat} {M : jv_M} {L S : List Value} {G G' : jv_Gr} {I I' : jv_I} {J J' : jv_J} {r : Option Value} {va vb : Value} (hd : decode M.2.1 pc = .ok (.dup2, 1)) (hva : va.category = 1) (hvb : vb.category = 1) (h : jv_V d M (pc + 1) L (va :: vb :: va :: vb :: S) G I J r G' I' J') : jv_V d M pc L (va :: vb :: S) G I J r G' I' J' := ⟨h.1, fun p l e R s m args below meth c H locs cells slots ls ad base D cA adS mc ms C T1 T2 T3 => lv_dup2_11 C.1 C.2.1 hd (by rw [jv_v_cat]; exact hva) (by rw [jv_v_cat]; exact hvb) (h.2 p l e R s m args below meth c H locs cells slots ls ad base D cA adS mc ms C T1 T2 T3)⟩
theorem jv_if_eq {d pc : Nat} {M : jv_M} {L S : List Value} {G G' : jv_Gr} {I I' : jv_I} {J J' : jv_J} {r : Option Value} {x : Int32} {off : Int} {tgt : Nat} (hd : decode M.2.1 pc = .ok (.ifCond .eq off, 3)) (ht : (pc : Int) + off = (tgt : Int)) (kt : x = 0 → jv_V d M tgt L S G I J r G' I' J') (kf : ¬ x = 0 → jv_V d M (pc + 3) L S G I J r G' I' J') : jv_V d M pc L (.int x :: S) G I J r G' I' J' := ⟨by
  by_cases q : x = 0
  · exact (kt q).1
  · exact (kf (by first | exact q | simpa using q)).1, fun p l e R s m args below meth c H locs cells slots ls ad base D cA adS mc ms C T1 T2 T3 => lv_if_eq C.1 C.2.1 hd ht (fun q => (kt q).2 p l e R s m args below meth c H locs cells slots ls ad base D cA adS mc ms C T1 T2 T3) (fun q => (kf q).2 p l e R s m args below meth c H locs cells slots ls ad base D cA adS mc ms C T1 T2 T3)⟩
theorem jv_icmp_eq {d pc : Nat} {M : jv_M} {L S : List Value} {G G' : jv_Gr} {I I' : jv_I} {J J' : jv_J} {r : Option Value} {x y : Int32} {off : Int} {tgt : Nat} (hd : decode M.2.1 pc = .ok (.if_icmp .eq off, 3)) (ht : (pc : Int) + off = (tgt : Int)) (kt : x = y → jv_V d M tgt L S G I J r G' I' J') (kf : ¬ x = y → jv_V d M (pc + 3) L S G I J r G' I' J') : jv_V d M pc L (.int y :: .int x :: S) G I J r G' I' J' := ⟨by
  by_cases q : x = y
  · exact (kt q).1
  · exact (kf (by first | exact q | simpa using q)).1, fun p l e R s m args below meth c H locs cells slots ls ad base D cA adS mc ms C T1 T2 T3 => lv_icmp_eq C.1 C.2.1 hd ht (fun q => (kt q).2 p l e R s m args below meth c H locs cells slots ls ad base D cA adS mc ms C T1 T2 T3) (fun q => (kf q).2 p l e R s m args below meth c H locs cells slots ls ad base D cA adS mc ms C T1 T2 T3)⟩
theorem jv_if_ne {d pc : Nat} {M : jv_M} {L S : List Value} {G G' : jv_Gr} {I I' : jv_I} {J J' : jv_J} {r : Option Value} {x : Int32} {off : Int} {tgt : Nat} (hd : decode M.2.1 pc = .ok (.ifCond .ne off, 3)) (ht : (pc : Int) + off = (tgt : Int)) (kt : ¬ x = 0 → jv_V d M tgt L S G I J r G' I' J') (kf : x = 0 → jv_V d M (pc + 3) L S G I J r G' I' J') : jv_V d M pc L (.int x :: S) G I J r G' I' J' := ⟨by
  by_cases q : ¬ x = 0
  · exact (kt q).1
  · exact (kf (by first | exact q | simpa using q)).1, fun p l e R s m args below meth c H locs cells slots ls ad base D cA adS mc ms C T1 T2 T3 => lv_if_ne C.1 C.2.1 hd ht (fun q => (kt q).2 p l e R s m args below meth c H locs cells slots ls ad base D cA adS mc ms C T1 T2 T3) (fun q => (kf q).2 p l e R s m args below meth c H locs cells slots ls ad base D cA adS mc ms C T1 T2 T3)⟩
theorem jv_icmp_ne {d pc : Nat} {M : jv_M} {L S : List Value} {G G' : jv_Gr} {I I' : jv_I} {J J' : jv_J} {r : Option Value} {x y : Int32} {off : Int} {tgt : Nat} (hd : decode M.2.1 pc = .ok (.if_icmp .ne off, 3)) (ht : (pc : Int) + off = (tgt : Int)) (kt : ¬ x = y → jv_V d M tgt L S G I J r G' I' J') (kf : x = y → jv_V d M (pc + 3) L S G I J r G' I' J') : jv_V d M pc L (.int y :: .int x :: S) G I J r G' I' J' := ⟨by
  by_cases q : ¬ x = y
  · exact (kt q).1
  · exact (kf (by first | exact q | simpa using q)).1, fun p l e R s m args below meth c H locs cells slots ls ad base D cA adS mc ms C T1 T2 T3 => lv_icmp_ne C.1 C.2.1 hd ht (fun q => (kt q).2 p l e R s m args below meth c H locs cells slots ls ad base D cA adS mc ms C T1 T2 T3) (fun q => (kf q).2 p l e R s m args below meth c H locs cells slots ls ad base D cA adS mc ms C T1 T2 T3)⟩
theorem jv_if_lt {d pc : Nat} {M : jv_M} {L S : List Value} {G G' : jv_Gr} {I I' : jv_I} {J J' : jv_J} {r : Option Value} {x : Int32} {off : Int} {tgt : Nat} (hd : decode M.2.1 pc = .ok (.ifCond .lt off, 3)) (ht : (pc : Int) + off = (tgt : Int)) (kt : x < 0 → jv_V d M tgt L S G I J r G' I' J') (kf : ¬ x < 0 → jv_V d M (pc + 3) L S G I J r G' I' J') : jv_V d M pc L (.int x :: S) G I J r G' I' J' := ⟨by
  by_cases q : x < 0
  · exact (kt q).1
  · exact (kf (by first | exact q | simpa using q)).1, fun p l e R s m args below meth c H locs cells slots ls ad base D cA adS mc ms C T1 T2 T3 => lv_if_lt C.1 C.2.1 hd ht (fun q => (kt q).2 p l e R s m args below meth c H locs cells slots ls ad base D cA adS mc ms C T1 T2 T3) (fun q => (kf q).2 p l e R s m args below meth c H locs cells slots ls ad base D cA adS mc ms C T1 T2 T3)⟩
theorem jv_icmp_lt {d pc : Nat} {M : jv_M} {L S : List Value} {G G' : jv_Gr} {I I' : jv_I} {J J' : jv_J} {r : Option Value} {x y : Int32} {off : Int} {tgt : Nat} (hd : decode M.2.1 pc = .ok (.if_icmp .lt off, 3)) (ht : (pc : Int) + off = (tgt : Int)) (kt : x < y → jv_V d M tgt L S G I J r G' I' J') (kf : ¬ x < y → jv_V d M (pc + 3) L S G I J r G' I' J') : jv_V d M pc L (.int y :: .int x :: S) G I J r G' I' J' := ⟨by
  by_cases q : x < y
  · exact (kt q).1
  · exact (kf (by first | exact q | simpa using q)).1, fun p l e R s m args below meth c H locs cells slots ls ad base D cA adS mc ms C T1 T2 T3 => lv_icmp_lt C.1 C.2.1 hd ht (fun q => (kt q).2 p l e R s m args below meth c H locs cells slots ls ad base D cA adS mc ms C T1 T2 T3) (fun q => (kf q).2 p l e R s m args below meth c H locs cells slots ls ad base D cA adS mc ms C T1 T2 T3)⟩
theorem jv_if_ge {d pc : Nat} {M : jv_M} {L S : List Value} {G G' : jv_Gr} {I I' : jv_I} {J J' : jv_J} {r : Option Value} {x : Int32} {off : Int} {tgt : Nat} (hd : decode M.2.1 pc = .ok (.ifCond .ge off, 3)) (ht : (pc : Int) + off = (tgt : Int)) (kt : 0 ≤ x → jv_V d M tgt L S G I J r G' I' J') (kf : ¬ 0 ≤ x → jv_V d M (pc + 3) L S G I J r G' I' J') : jv_V d M pc L (.int x :: S) G I J r G' I' J' := ⟨by
  by_cases q : 0 ≤ x
  · exact (kt q).1
  · exact (kf (by first | exact q | simpa using q)).1, fun p l e R s m args below meth c H locs cells slots ls ad base D cA adS mc ms C T1 T2 T3 => lv_if_ge C.1 C.2.1 hd ht (fun q => (kt q).2 p l e R s m args below meth c H locs cells slots ls ad base D cA adS mc ms C T1 T2 T3) (fun q => (kf q).2 p l e R s m args below meth c H locs cells slots ls ad base D cA adS mc ms C T1 T2 T3)⟩
theorem jv_icmp_ge {d pc : Nat} {M : jv_M} {L S : List Value} {G G' : jv_Gr} {I I' : jv_I} {J J' : jv_J} {r : Option Value} {x y : Int32} {off : Int} {tgt : Nat} (hd : decode M.2.1 pc = .ok (.if_icmp .ge off, 3)) (ht : (pc : Int) + off = (tgt : Int)) (kt : y ≤ x → jv_V d M tgt L S G I J r G' I' J') (kf : ¬ y ≤ x → jv_V d M (pc + 3) L S G I J r G' I' J') : jv_V d M pc L (.int y :: .int x :: S) G I J r G' I' J' := ⟨by
  by_cases q : y ≤ x
  · exact (kt q).1
  · exact (kf (by first | exact q | simpa using q)).1, fun p l e R s m args below meth c H locs cells slots ls ad base D cA adS mc ms C T1 T2 T3 => lv_icmp_ge C.1 C.2.1 hd ht (fun q => (kt q).2 p l e R s m args below meth c H locs cells slots ls ad base D cA adS mc ms C T1 T2 T3) (fun q => (kf q).2 p l e R s m args below meth c H locs cells slots ls ad base D cA adS mc ms C T1 T2 T3)⟩
theorem jv_if_gt {d pc : Nat} {M : jv_M} {L S : List Value} {G G' : jv_Gr} {I I' : jv_I} {J J' : jv_J} {r : Option Value} {x : Int32} {off : Int} {tgt : Nat} (hd : decode M.2.1 pc = .ok (.ifCond .gt off, 3)) (ht : (pc : Int) + off = (tgt : Int)) (kt : 0 < x → jv_V d M tgt L S G I J r G' I' J') (kf : ¬ 0 < x → jv_V d M (pc + 3) L S G I J r G' I' J') : jv_V d M pc L (.int x :: S) G I J r G' I' J' := ⟨by
  by_cases q : 0 < x
  · exact (kt q).1
  · exact (kf (by first | exact q | simpa using q)).1, fun p l e R s m args below meth c H locs cells slots ls ad base D cA adS mc ms C T1 T2 T3 => lv_if_gt C.1 C.2.1 hd ht (fun q => (kt q).2 p l e R s m args below meth c H locs cells slots ls ad base D cA adS mc ms C T1 T2 T3) (fun q => (kf q).2 p l e R s m args below meth c H locs cells slots ls ad base D cA adS mc ms C T1 T2 T3)⟩
theorem jv_icmp_gt {d pc : Nat} {M : jv_M} {L S : List Value} {G G' : jv_Gr} {I I' : jv_I} {J J' : jv_J} {r : Option Value} {x y : Int32} {off : Int} {tgt : Nat} (hd : decode M.2.1 pc = .ok (.if_icmp .gt off, 3)) (ht : (pc : Int) + off = (tgt : Int)) (kt : y < x → jv_V d M tgt L S G I J r G' I' J') (kf : ¬ y < x → jv_V d M (pc + 3) L S G I J r G' I' J') : jv_V d M pc L (.int y :: .int x :: S) G I J r G' I' J' := ⟨by
  by_cases q : y < x
  · exact (kt q).1
  · exact (kf (by first | exact q | simpa using q)).1, fun p l e R s m args below meth c H locs cells slots ls ad base D cA adS mc ms C T1 T2 T3 => lv_icmp_gt C.1 C.2.1 hd ht (fun q => (kt q).2 p l e R s m args below meth c H locs cells slots ls ad base D cA adS mc ms C T1 T2 T3) (fun q => (kf q).2 p l e R s m args below meth c H locs cells slots ls ad base D cA adS mc ms C T1 T2 T3)⟩
theorem jv_if_le {d pc : Nat} {M : jv_M} {L S : List Value} {G G' : jv_Gr} {I I' : jv_I} {J J' : jv_J} {r : Option Value} {x : Int32} {off : Int} {tgt : Nat} (hd : decode M.2.1 pc = .ok (.ifCond .le off, 3)) (ht : (pc : Int) + off = (tgt : Int)) (kt : x ≤ 0 → jv_V d M tgt L S G I J r G' I' J') (kf : ¬ x ≤ 0 → jv_V d M (pc + 3) L S G I J r G' I' J') : jv_V d M pc L (.int x :: S) G I J r G' I' J' := ⟨by
  by_cases q : x ≤ 0
  · exact (kt q).1
  · exact (kf (by first | exact q | simpa using q)).1, fun p l e R s m args below meth c H locs cells slots ls ad base D cA adS mc ms C T1 T2 T3 => lv_if_le C.1 C.2.1 hd ht (fun q => (kt q).2 p l e R s m args below meth c H locs cells slots ls ad base D cA adS mc ms C T1 T2 T3) (fun q => (kf q).2 p l e R s m args below meth c H locs cells slots ls ad base D cA adS mc ms C T1 T2 T3)⟩
theorem jv_icmp_le {d pc : Nat} {M : jv_M} {L S : List Value} {G G' : jv_Gr} {I I' : jv_I} {J J' : jv_J} {r : Option Value} {x y : Int32} {off : Int} {tgt : Nat} (hd : decode M.2.1 pc = .ok (.if_icmp .le off, 3)) (ht : (pc : Int) + off = (tgt : Int)) (kt : x ≤ y → jv_V d M tgt L S G I J r G' I' J') (kf : ¬ x ≤ y → jv_V d M (pc + 3) L S G I J r G' I' J') : jv_V d M pc L (.int y :: .int x :: S) G I J r G' I' J' := ⟨by
  by_cases q : x ≤ y
  · exact (kt q).1
  · exact (kf (by first | exact q | simpa using q)).1, fun p l e R s m args below meth c H locs cells slots ls ad base D cA adS mc ms C T1 T2 T3 => lv_icmp_le C.1 C.2.1 hd ht (fun q => (kt q).2 p l e R s m args below meth c H locs cells slots ls ad base D cA adS mc ms C T1 T2 T3) (fun q => (kf q).2 p l e R s m args below meth c H locs cells slots ls ad base D cA adS mc ms C T1 T2 T3)⟩
theorem jv_goto {d pc : Nat} {M : jv_M} {L S : List Value} {G G' : jv_Gr} {I I' : jv_I} {J J' : jv_J} {r : Option Value} {off : Int} {tgt : Nat} (hd : decode M.2.1 pc = .ok (.goto off, 3)) (ht : (pc : Int) + off = (tgt : Int)) (h : jv_V d M tgt L S G I J r G' I' J') : jv_V d M pc L S G I J r G' I' J' := ⟨h.1, fun p l e R s m args below meth c H locs cells slots ls ad base D cA adS mc ms C T1 T2 T3 => lv_goto C.1 C.2.1 hd ht (h.2 p l e R s m args below meth c H locs cells slots ls ad base D cA adS mc ms C T1 T2 T3)⟩
theorem jv_tableIn {d pc : Nat} {M : jv_M} {L S : List Value} {G G' : jv_Gr} {I I' : jv_I} {J J' : jv_J} {r : Option Value} {dflt lo hi : Int} {offs : Array Int} {len : Nat} {x : Int32} {off : Int} {tgt : Nat} (hd : decode M.2.1 pc = .ok (.tableswitch dflt lo hi offs, len)) (h1 : ¬ x.toInt < lo) (h2 : ¬ hi < x.toInt) (ho : offs[(x.toInt - lo).toNat]? = some off) (ht : (pc : Int) + off = (tgt : Int)) (h : jv_V d M tgt L S G I J r G' I' J') : jv_V d M pc L (.int x :: S) G I J r G' I' J' := ⟨h.1, fun p l e R s m args below meth c H locs cells slots ls ad base D cA adS mc ms C T1 T2 T3 => lv_tableIn C.1 C.2.1 hd h1 h2 ho ht (h.2 p l e R s m args below meth c H locs cells slots ls ad base D cA adS mc ms C T1 T2 T3)⟩
theorem jv_tableOut {d pc : Nat} {M : jv_M} {L S : List Value} {G G' : jv_Gr} {I I' : jv_I} {J J' : jv_J} {r : Option Value} {dflt lo hi : Int} {offs : Array Int} {len : Nat} {x : Int32} {tgt : Nat} (hd : decode M.2.1 pc = .ok (.tableswitch dflt lo hi offs, len)) (h0 : x.toInt < lo ∨ hi < x.toInt) (ht : (pc : Int) + dflt = (tgt : Int)) (h : jv_V d M tgt L S G I J r G' I' J') : jv_V d M pc L (.int x :: S) G I J r G' I' J' := ⟨h.1, fun p l e R s m args below meth c H locs cells slots ls ad base D cA adS mc ms C T1 T2 T3 => lv_tableOut C.1 C.2.1 hd h0 ht (h.2 p l e R s m args below meth c H locs cells slots ls ad base D cA adS mc ms C T1 T2 T3)⟩
theorem jv_ldc {d pc : Nat} {M : jv_M} {L S : List Value} {G G' : jv_Gr} {I I' : jv_I} {J J' : jv_J} {r : Option Value} {idx : Nat} {v : Int32} (hd : decode M.2.1 pc = .ok (.ldc idx, 2)) (hw : Cond.constant M.1.cls idx v ∈ lw_tg) (h : jv_V d M (pc + 2) L (.int v :: S) G I J r G' I' J') : jv_V d M pc L S G I J r G' I' J' := ⟨h.1, fun p l e R s m args below meth c H locs cells slots ls ad base D cA adS mc ms C T1 T2 T3 => lv_ldc C.1 C.2.1 C.2.2.2.2.2.2.1 (C.2.2.2.2.2.2.2.1 _ hw) hd (h.2 p l e R s m args below meth c H locs cells slots ls ad base D cA adS mc ms C T1 T2 T3)⟩
theorem jv_ldcw {d pc : Nat} {M : jv_M} {L S : List Value} {G G' : jv_Gr} {I I' : jv_I} {J J' : jv_J} {r : Option Value} {idx : Nat} {v : Int32} (hd : decode M.2.1 pc = .ok (.ldc_w idx, 3)) (hw : Cond.constant M.1.cls idx v ∈ lw_tg) (h : jv_V d M (pc + 3) L (.int v :: S) G I J r G' I' J') : jv_V d M pc L S G I J r G' I' J' := ⟨h.1, fun p l e R s m args below meth c H locs cells slots ls ad base D cA adS mc ms C T1 T2 T3 => lv_ldcw C.1 C.2.1 C.2.2.2.2.2.2.1 (C.2.2.2.2.2.2.2.1 _ hw) hd (h.2 p l e R s m args below meth c H locs cells slots ls ad base D cA adS mc ms C T1 T2 T3)⟩
theorem jv_ldc2 {d pc : Nat} {M : jv_M} {L S : List Value} {G G' : jv_Gr} {I I' : jv_I} {J J' : jv_J} {r : Option Value} {idx : Nat} {v : Int64} (hd : decode M.2.1 pc = .ok (.ldc2_w idx, 3)) (hw : Cond.constantLong M.1.cls idx v ∈ lw_tg) (h : jv_V d M (pc + 3) L (.long v :: S) G I J r G' I' J') : jv_V d M pc L S G I J r G' I' J' := ⟨h.1, fun p l e R s m args below meth c H locs cells slots ls ad base D cA adS mc ms C T1 T2 T3 => lv_ldc2 C.1 C.2.1 C.2.2.2.2.2.2.1 (C.2.2.2.2.2.2.2.1 _ hw) hd (h.2 p l e R s m args below meth c H locs cells slots ls ad base D cA adS mc ms C T1 T2 T3)⟩
theorem jv_iload0 {d pc : Nat} {M : jv_M} {L S : List Value} {G G' : jv_Gr} {I I' : jv_I} {J J' : jv_J} {r : Option Value}  {x : Int32} (hd : decode M.2.1 pc = .ok (.iload_n 0, 1)) (h : jv_V d M (pc + 1) (.int x :: L) (.int x :: S) G I J r G' I' J') : jv_V d M pc (.int x :: L) S G I J r G' I' J' := ⟨h.1, fun p l e R s m args below meth c H locs cells slots ls ad base D cA adS mc ms C T1 T2 T3 => lv_iload_n C.1 C.2.1 hd rfl (T2.at (i := 0) (v := .int x) rfl (by intro q; cases q)) (h.2 p l e R s m args below meth c H locs cells slots ls ad base D cA adS mc ms C T1 T2 T3)⟩
theorem jv_lload0 {d pc : Nat} {M : jv_M} {L S : List Value} {G G' : jv_Gr} {I I' : jv_I} {J J' : jv_J} {r : Option Value}  {x : Int64} (hd : decode M.2.1 pc = .ok (.lload_n 0, 1)) (h : jv_V d M (pc + 1) (.long x :: L) (.long x :: S) G I J r G' I' J') : jv_V d M pc (.long x :: L) S G I J r G' I' J' := ⟨h.1, fun p l e R s m args below meth c H locs cells slots ls ad base D cA adS mc ms C T1 T2 T3 => lv_lload_n C.1 C.2.1 hd rfl (T2.at (i := 0) (v := .long x) rfl (by intro q; cases q)) (h.2 p l e R s m args below meth c H locs cells slots ls ad base D cA adS mc ms C T1 T2 T3)⟩
theorem jv_aload0 {d pc : Nat} {M : jv_M} {L S : List Value} {G G' : jv_Gr} {I I' : jv_I} {J J' : jv_J} {r : Option Value}  {x : Nat} (hd : decode M.2.1 pc = .ok (.aload_n 0, 1)) (h : jv_V d M (pc + 1) (.ref x :: L) (.ref x :: S) G I J r G' I' J') : jv_V d M pc (.ref x :: L) S G I J r G' I' J' := ⟨h.1, fun p l e R s m args below meth c H locs cells slots ls ad base D cA adS mc ms C T1 T2 T3 => by
  have hl := T2.at (i := 0) (v := .ref x) rfl (by intro q; cases q)
  have hk := h.2 p l e R s m args below meth c H locs cells slots ls ad base D cA adS mc ms C T1 T2 T3
  by_cases hx : x = 0
  · subst hx
    exact lv_aload_nN C.1 C.2.1 hd rfl hl hk
  · rw [jv_v_ref ad hx] at hl
    rw [List.map_cons, jv_v_ref ad hx] at hk
    exact lv_aload_n C.1 C.2.1 hd rfl hl hk⟩
theorem jv_istore0 {d pc : Nat} {M : jv_M} {L S : List Value} {G G' : jv_Gr} {I I' : jv_I} {J J' : jv_J} {r : Option Value} {z : Value} {x : Int32} (hd : decode M.2.1 pc = .ok (.istore_n 0, 1)) (h : jv_V d M (pc + 1) (.int x :: L) S G I J r G' I' J') : jv_V d M pc (z :: L) (.int x :: S) G I J r G' I' J' := ⟨h.1, fun p l e R s m args below meth c H locs cells slots ls ad base D cA adS mc ms C T1 T2 T3 => by
  have hi : 0 < M.2.2.1 := by rw [← T2.1]; simp
  exact lv_istore_n C.1 C.2.1 hd rfl T2.has hi rfl (fun ls' hl => h.2 p l e R s m args below meth c H locs cells slots ls' ad base D cA adS mc ms C T1 (T2.put1 (i := 0) (v := .int x) jv_c1_0 (by intro q; cases q) hi hl) T3)⟩
theorem jv_astore0 {d pc : Nat} {M : jv_M} {L S : List Value} {G G' : jv_Gr} {I I' : jv_I} {J J' : jv_J} {r : Option Value} {z : Value} {x : Nat} (hd : decode M.2.1 pc = .ok (.astore_n 0, 1)) (h : jv_V d M (pc + 1) (.ref x :: L) S G I J r G' I' J') : jv_V d M pc (z :: L) (.ref x :: S) G I J r G' I' J' := ⟨h.1, fun p l e R s m args below meth c H locs cells slots ls ad base D cA adS mc ms C T1 T2 T3 => by
  have hi : 0 < M.2.2.1 := by rw [← T2.1]; simp
  exact (by
  have hk : ∀ ls' : Array Slot, lv_has ls' M.2.2.1 ((0, jv_v ad (.ref x)) :: (jv_lv ad (z :: L)).filter (fun q => !(q.1 == 0) && !(q.1 + 1 == 0 && q.2.category == 2))) → W p l e R s m args below meth c H locs cells slots (MQ below (jv_Q base D cA ad (jv_n G) r G' I' J') args s mc ms (fun q => base ≤ q)) (F0 m (pc + 1) ls' (S.map (jv_v ad))) := fun ls' hl => h.2 p l e R s m args below meth c H locs cells slots ls' ad base D cA adS mc ms C T1 (T2.put1 (i := 0) (v := .ref x) jv_c1_0 (by intro q; cases q) hi hl) T3
  by_cases hx : x = 0
  · subst hx
    exact lv_astore_nN C.1 C.2.1 hd rfl T2.has hi rfl hk
  · rw [jv_v_ref ad hx] at hk
    rw [List.map_cons, jv_v_ref ad hx]
    exact lv_astore_n C.1 C.2.1 hd rfl T2.has hi rfl hk)⟩
theorem jv_iinc0 {d pc : Nat} {M : jv_M} {L S : List Value} {G G' : jv_Gr} {I I' : jv_I} {J J' : jv_J} {r : Option Value} {x v : Int32} {n : Int} (hd : decode M.2.1 pc = .ok (.iinc 0 n, 3)) (hv : x + Int32.ofInt n = v) (h : jv_V d M (pc + 3) (.int v :: L) S G I J r G' I' J') : jv_V d M pc (.int x :: L) S G I J r G' I' J' := ⟨h.1, fun p l e R s m args below meth c H locs cells slots ls ad base D cA adS mc ms C T1 T2 T3 => by
  have hi : 0 < M.2.2.1 := by rw [← T2.1]; simp
  obtain ⟨k, hk⟩ := List.getElem?_of_mem (jv_lv_in (ad := ad) (L := (.int x :: L)) (i := 0) (v := .int x) rfl (by intro q; cases q))
  exact lv_iinc C.1 C.2.1 hd T2.has hk hv hi rfl (fun ls' hl => h.2 p l e R s m args below meth c H locs cells slots ls' ad base D cA adS mc ms C T1 (T2.put1 (i := 0) (v := .int v) jv_c1_0 (by intro q; cases q) hi hl) T3)⟩
theorem jv_iload1 {d pc : Nat} {M : jv_M} {L S : List Value} {G G' : jv_Gr} {I I' : jv_I} {J J' : jv_J} {r : Option Value} {a0 : Value} {x : Int32} (hd : decode M.2.1 pc = .ok (.iload_n 1, 1)) (h : jv_V d M (pc + 1) (a0 :: .int x :: L) (.int x :: S) G I J r G' I' J') : jv_V d M pc (a0 :: .int x :: L) S G I J r G' I' J' := ⟨h.1, fun p l e R s m args below meth c H locs cells slots ls ad base D cA adS mc ms C T1 T2 T3 => lv_iload_n C.1 C.2.1 hd rfl (T2.at (i := 1) (v := .int x) rfl (by intro q; cases q)) (h.2 p l e R s m args below meth c H locs cells slots ls ad base D cA adS mc ms C T1 T2 T3)⟩
theorem jv_lload1 {d pc : Nat} {M : jv_M} {L S : List Value} {G G' : jv_Gr} {I I' : jv_I} {J J' : jv_J} {r : Option Value} {a0 : Value} {x : Int64} (hd : decode M.2.1 pc = .ok (.lload_n 1, 1)) (h : jv_V d M (pc + 1) (a0 :: .long x :: L) (.long x :: S) G I J r G' I' J') : jv_V d M pc (a0 :: .long x :: L) S G I J r G' I' J' := ⟨h.1, fun p l e R s m args below meth c H locs cells slots ls ad base D cA adS mc ms C T1 T2 T3 => lv_lload_n C.1 C.2.1 hd rfl (T2.at (i := 1) (v := .long x) rfl (by intro q; cases q)) (h.2 p l e R s m args below meth c H locs cells slots ls ad base D cA adS mc ms C T1 T2 T3)⟩
theorem jv_aload1 {d pc : Nat} {M : jv_M} {L S : List Value} {G G' : jv_Gr} {I I' : jv_I} {J J' : jv_J} {r : Option Value} {a0 : Value} {x : Nat} (hd : decode M.2.1 pc = .ok (.aload_n 1, 1)) (h : jv_V d M (pc + 1) (a0 :: .ref x :: L) (.ref x :: S) G I J r G' I' J') : jv_V d M pc (a0 :: .ref x :: L) S G I J r G' I' J' := ⟨h.1, fun p l e R s m args below meth c H locs cells slots ls ad base D cA adS mc ms C T1 T2 T3 => by
  have hl := T2.at (i := 1) (v := .ref x) rfl (by intro q; cases q)
  have hk := h.2 p l e R s m args below meth c H locs cells slots ls ad base D cA adS mc ms C T1 T2 T3
  by_cases hx : x = 0
  · subst hx
    exact lv_aload_nN C.1 C.2.1 hd rfl hl hk
  · rw [jv_v_ref ad hx] at hl
    rw [List.map_cons, jv_v_ref ad hx] at hk
    exact lv_aload_n C.1 C.2.1 hd rfl hl hk⟩
theorem jv_istore1 {d pc : Nat} {M : jv_M} {L S : List Value} {G G' : jv_Gr} {I I' : jv_I} {J J' : jv_J} {r : Option Value} {a0 z : Value} {x : Int32} (hd : decode M.2.1 pc = .ok (.istore_n 1, 1)) (hc : a0.category = 1) (h : jv_V d M (pc + 1) (a0 :: .int x :: L) S G I J r G' I' J') : jv_V d M pc (a0 :: z :: L) (.int x :: S) G I J r G' I' J' := ⟨h.1, fun p l e R s m args below meth c H locs cells slots ls ad base D cA adS mc ms C T1 T2 T3 => by
  have hi : 1 < M.2.2.1 := by rw [← T2.1]; simp
  exact lv_istore_n C.1 C.2.1 hd rfl T2.has hi rfl (fun ls' hl => h.2 p l e R s m args below meth c H locs cells slots ls' ad base D cA adS mc ms C T1 (T2.put1 (i := 1) (v := .int x) (jv_c1_s (i := 0) rfl hc) (by intro q; cases q) hi hl) T3)⟩
theorem jv_astore1 {d pc : Nat} {M : jv_M} {L S : List Value} {G G' : jv_Gr} {I I' : jv_I} {J J' : jv_J} {r : Option Value} {a0 z : Value} {x : Nat} (hd : decode M.2.1 pc = .ok (.astore_n 1, 1)) (hc : a0.category = 1) (h : jv_V d M (pc + 1) (a0 :: .ref x :: L) S G I J r G' I' J') : jv_V d M pc (a0 :: z :: L) (.ref x :: S) G I J r G' I' J' := ⟨h.1, fun p l e R s m args below meth c H locs cells slots ls ad base D cA adS mc ms C T1 T2 T3 => by
  have hi : 1 < M.2.2.1 := by rw [← T2.1]; simp
  exact (by
  have hk : ∀ ls' : Array Slot, lv_has ls' M.2.2.1 ((1, jv_v ad (.ref x)) :: (jv_lv ad (a0 :: z :: L)).filter (fun q => !(q.1 == 1) && !(q.1 + 1 == 1 && q.2.category == 2))) → W p l e R s m args below meth c H locs cells slots (MQ below (jv_Q base D cA ad (jv_n G) r G' I' J') args s mc ms (fun q => base ≤ q)) (F0 m (pc + 1) ls' (S.map (jv_v ad))) := fun ls' hl => h.2 p l e R s m args below meth c H locs cells slots ls' ad base D cA adS mc ms C T1 (T2.put1 (i := 1) (v := .ref x) (jv_c1_s (i := 0) rfl hc) (by intro q; cases q) hi hl) T3
  by_cases hx : x = 0
  · subst hx
    exact lv_astore_nN C.1 C.2.1 hd rfl T2.has hi rfl hk
  · rw [jv_v_ref ad hx] at hk
    rw [List.map_cons, jv_v_ref ad hx]
    exact lv_astore_n C.1 C.2.1 hd rfl T2.has hi rfl hk)⟩
theorem jv_iinc1 {d pc : Nat} {M : jv_M} {L S : List Value} {G G' : jv_Gr} {I I' : jv_I} {J J' : jv_J} {r : Option Value} {a0 : Value} {x v : Int32} {n : Int} (hd : decode M.2.1 pc = .ok (.iinc 1 n, 3)) (hv : x + Int32.ofInt n = v) (hc : a0.category = 1) (h : jv_V d M (pc + 3) (a0 :: .int v :: L) S G I J r G' I' J') : jv_V d M pc (a0 :: .int x :: L) S G I J r G' I' J' := ⟨h.1, fun p l e R s m args below meth c H locs cells slots ls ad base D cA adS mc ms C T1 T2 T3 => by
  have hi : 1 < M.2.2.1 := by rw [← T2.1]; simp
  obtain ⟨k, hk⟩ := List.getElem?_of_mem (jv_lv_in (ad := ad) (L := (a0 :: .int x :: L)) (i := 1) (v := .int x) rfl (by intro q; cases q))
  exact lv_iinc C.1 C.2.1 hd T2.has hk hv hi rfl (fun ls' hl => h.2 p l e R s m args below meth c H locs cells slots ls' ad base D cA adS mc ms C T1 (T2.put1 (i := 1) (v := .int v) (jv_c1_s (i := 0) rfl hc) (by intro q; cases q) hi hl) T3)⟩
theorem jv_iload2 {d pc : Nat} {M : jv_M} {L S : List Value} {G G' : jv_Gr} {I I' : jv_I} {J J' : jv_J} {r : Option Value} {a0 a1 : Value} {x : Int32} (hd : decode M.2.1 pc = .ok (.iload_n 2, 1)) (h : jv_V d M (pc + 1) (a0 :: a1 :: .int x :: L) (.int x :: S) G I J r G' I' J') : jv_V d M pc (a0 :: a1 :: .int x :: L) S G I J r G' I' J' := ⟨h.1, fun p l e R s m args below meth c H locs cells slots ls ad base D cA adS mc ms C T1 T2 T3 => lv_iload_n C.1 C.2.1 hd rfl (T2.at (i := 2) (v := .int x) rfl (by intro q; cases q)) (h.2 p l e R s m args below meth c H locs cells slots ls ad base D cA adS mc ms C T1 T2 T3)⟩
theorem jv_lload2 {d pc : Nat} {M : jv_M} {L S : List Value} {G G' : jv_Gr} {I I' : jv_I} {J J' : jv_J} {r : Option Value} {a0 a1 : Value} {x : Int64} (hd : decode M.2.1 pc = .ok (.lload_n 2, 1)) (h : jv_V d M (pc + 1) (a0 :: a1 :: .long x :: L) (.long x :: S) G I J r G' I' J') : jv_V d M pc (a0 :: a1 :: .long x :: L) S G I J r G' I' J' := ⟨h.1, fun p l e R s m args below meth c H locs cells slots ls ad base D cA adS mc ms C T1 T2 T3 => lv_lload_n C.1 C.2.1 hd rfl (T2.at (i := 2) (v := .long x) rfl (by intro q; cases q)) (h.2 p l e R s m args below meth c H locs cells slots ls ad base D cA adS mc ms C T1 T2 T3)⟩
theorem jv_aload2 {d pc : Nat} {M : jv_M} {L S : List Value} {G G' : jv_Gr} {I I' : jv_I} {J J' : jv_J} {r : Option Value} {a0 a1 : Value} {x : Nat} (hd : decode M.2.1 pc = .ok (.aload_n 2, 1)) (h : jv_V d M (pc + 1) (a0 :: a1 :: .ref x :: L) (.ref x :: S) G I J r G' I' J') : jv_V d M pc (a0 :: a1 :: .ref x :: L) S G I J r G' I' J' := ⟨h.1, fun p l e R s m args below meth c H locs cells slots ls ad base D cA adS mc ms C T1 T2 T3 => by
  have hl := T2.at (i := 2) (v := .ref x) rfl (by intro q; cases q)
  have hk := h.2 p l e R s m args below meth c H locs cells slots ls ad base D cA adS mc ms C T1 T2 T3
  by_cases hx : x = 0
  · subst hx
    exact lv_aload_nN C.1 C.2.1 hd rfl hl hk
  · rw [jv_v_ref ad hx] at hl
    rw [List.map_cons, jv_v_ref ad hx] at hk
    exact lv_aload_n C.1 C.2.1 hd rfl hl hk⟩
theorem jv_istore2 {d pc : Nat} {M : jv_M} {L S : List Value} {G G' : jv_Gr} {I I' : jv_I} {J J' : jv_J} {r : Option Value} {a0 a1 z : Value} {x : Int32} (hd : decode M.2.1 pc = .ok (.istore_n 2, 1)) (hc : a1.category = 1) (h : jv_V d M (pc + 1) (a0 :: a1 :: .int x :: L) S G I J r G' I' J') : jv_V d M pc (a0 :: a1 :: z :: L) (.int x :: S) G I J r G' I' J' := ⟨h.1, fun p l e R s m args below meth c H locs cells slots ls ad base D cA adS mc ms C T1 T2 T3 => by
  have hi : 2 < M.2.2.1 := by rw [← T2.1]; simp
  exact lv_istore_n C.1 C.2.1 hd rfl T2.has hi rfl (fun ls' hl => h.2 p l e R s m args below meth c H locs cells slots ls' ad base D cA adS mc ms C T1 (T2.put1 (i := 2) (v := .int x) (jv_c1_s (i := 1) rfl hc) (by intro q; cases q) hi hl) T3)⟩
theorem jv_astore2 {d pc : Nat} {M : jv_M} {L S : List Value} {G G' : jv_Gr} {I I' : jv_I} {J J' : jv_J} {r : Option Value} {a0 a1 z : Value} {x : Nat} (hd : decode M.2.1 pc = .ok (.astore_n 2, 1)) (hc : a1.category = 1) (h : jv_V d M (pc + 1) (a0 :: a1 :: .ref x :: L) S G I J r G' I' J') : jv_V d M pc (a0 :: a1 :: z :: L) (.ref x :: S) G I J r G' I' J' := ⟨h.1, fun p l e R s m args below meth c H locs cells slots ls ad base D cA adS mc ms C T1 T2 T3 => by
  have hi : 2 < M.2.2.1 := by rw [← T2.1]; simp
  exact (by
  have hk : ∀ ls' : Array Slot, lv_has ls' M.2.2.1 ((2, jv_v ad (.ref x)) :: (jv_lv ad (a0 :: a1 :: z :: L)).filter (fun q => !(q.1 == 2) && !(q.1 + 1 == 2 && q.2.category == 2))) → W p l e R s m args below meth c H locs cells slots (MQ below (jv_Q base D cA ad (jv_n G) r G' I' J') args s mc ms (fun q => base ≤ q)) (F0 m (pc + 1) ls' (S.map (jv_v ad))) := fun ls' hl => h.2 p l e R s m args below meth c H locs cells slots ls' ad base D cA adS mc ms C T1 (T2.put1 (i := 2) (v := .ref x) (jv_c1_s (i := 1) rfl hc) (by intro q; cases q) hi hl) T3
  by_cases hx : x = 0
  · subst hx
    exact lv_astore_nN C.1 C.2.1 hd rfl T2.has hi rfl hk
  · rw [jv_v_ref ad hx] at hk
    rw [List.map_cons, jv_v_ref ad hx]
    exact lv_astore_n C.1 C.2.1 hd rfl T2.has hi rfl hk)⟩
theorem jv_iinc2 {d pc : Nat} {M : jv_M} {L S : List Value} {G G' : jv_Gr} {I I' : jv_I} {J J' : jv_J} {r : Option Value} {a0 a1 : Value} {x v : Int32} {n : Int} (hd : decode M.2.1 pc = .ok (.iinc 2 n, 3)) (hv : x + Int32.ofInt n = v) (hc : a1.category = 1) (h : jv_V d M (pc + 3) (a0 :: a1 :: .int v :: L) S G I J r G' I' J') : jv_V d M pc (a0 :: a1 :: .int x :: L) S G I J r G' I' J' := ⟨h.1, fun p l e R s m args below meth c H locs cells slots ls ad base D cA adS mc ms C T1 T2 T3 => by
  have hi : 2 < M.2.2.1 := by rw [← T2.1]; simp
  obtain ⟨k, hk⟩ := List.getElem?_of_mem (jv_lv_in (ad := ad) (L := (a0 :: a1 :: .int x :: L)) (i := 2) (v := .int x) rfl (by intro q; cases q))
  exact lv_iinc C.1 C.2.1 hd T2.has hk hv hi rfl (fun ls' hl => h.2 p l e R s m args below meth c H locs cells slots ls' ad base D cA adS mc ms C T1 (T2.put1 (i := 2) (v := .int v) (jv_c1_s (i := 1) rfl hc) (by intro q; cases q) hi hl) T3)⟩
theorem jv_iload3 {d pc : Nat} {M : jv_M} {L S : List Value} {G G' : jv_Gr} {I I' : jv_I} {J J' : jv_J} {r : Option Value} {a0 a1 a2 : Value} {x : Int32} (hd : decode M.2.1 pc = .ok (.iload_n 3, 1)) (h : jv_V d M (pc + 1) (a0 :: a1 :: a2 :: .int x :: L) (.int x :: S) G I J r G' I' J') : jv_V d M pc (a0 :: a1 :: a2 :: .int x :: L) S G I J r G' I' J' := ⟨h.1, fun p l e R s m args below meth c H locs cells slots ls ad base D cA adS mc ms C T1 T2 T3 => lv_iload_n C.1 C.2.1 hd rfl (T2.at (i := 3) (v := .int x) rfl (by intro q; cases q)) (h.2 p l e R s m args below meth c H locs cells slots ls ad base D cA adS mc ms C T1 T2 T3)⟩
theorem jv_lload3 {d pc : Nat} {M : jv_M} {L S : List Value} {G G' : jv_Gr} {I I' : jv_I} {J J' : jv_J} {r : Option Value} {a0 a1 a2 : Value} {x : Int64} (hd : decode M.2.1 pc = .ok (.lload_n 3, 1)) (h : jv_V d M (pc + 1) (a0 :: a1 :: a2 :: .long x :: L) (.long x :: S) G I J r G' I' J') : jv_V d M pc (a0 :: a1 :: a2 :: .long x :: L) S G I J r G' I' J' := ⟨h.1, fun p l e R s m args below meth c H locs cells slots ls ad base D cA adS mc ms C T1 T2 T3 => lv_lload_n C.1 C.2.1 hd rfl (T2.at (i := 3) (v := .long x) rfl (by intro q; cases q)) (h.2 p l e R s m args below meth c H locs cells slots ls ad base D cA adS mc ms C T1 T2 T3)⟩
theorem jv_aload3 {d pc : Nat} {M : jv_M} {L S : List Value} {G G' : jv_Gr} {I I' : jv_I} {J J' : jv_J} {r : Option Value} {a0 a1 a2 : Value} {x : Nat} (hd : decode M.2.1 pc = .ok (.aload_n 3, 1)) (h : jv_V d M (pc + 1) (a0 :: a1 :: a2 :: .ref x :: L) (.ref x :: S) G I J r G' I' J') : jv_V d M pc (a0 :: a1 :: a2 :: .ref x :: L) S G I J r G' I' J' := ⟨h.1, fun p l e R s m args below meth c H locs cells slots ls ad base D cA adS mc ms C T1 T2 T3 => by
  have hl := T2.at (i := 3) (v := .ref x) rfl (by intro q; cases q)
  have hk := h.2 p l e R s m args below meth c H locs cells slots ls ad base D cA adS mc ms C T1 T2 T3
  by_cases hx : x = 0
  · subst hx
    exact lv_aload_nN C.1 C.2.1 hd rfl hl hk
  · rw [jv_v_ref ad hx] at hl
    rw [List.map_cons, jv_v_ref ad hx] at hk
    exact lv_aload_n C.1 C.2.1 hd rfl hl hk⟩
theorem jv_istore3 {d pc : Nat} {M : jv_M} {L S : List Value} {G G' : jv_Gr} {I I' : jv_I} {J J' : jv_J} {r : Option Value} {a0 a1 a2 z : Value} {x : Int32} (hd : decode M.2.1 pc = .ok (.istore_n 3, 1)) (hc : a2.category = 1) (h : jv_V d M (pc + 1) (a0 :: a1 :: a2 :: .int x :: L) S G I J r G' I' J') : jv_V d M pc (a0 :: a1 :: a2 :: z :: L) (.int x :: S) G I J r G' I' J' := ⟨h.1, fun p l e R s m args below meth c H locs cells slots ls ad base D cA adS mc ms C T1 T2 T3 => by
  have hi : 3 < M.2.2.1 := by rw [← T2.1]; simp
  exact lv_istore_n C.1 C.2.1 hd rfl T2.has hi rfl (fun ls' hl => h.2 p l e R s m args below meth c H locs cells slots ls' ad base D cA adS mc ms C T1 (T2.put1 (i := 3) (v := .int x) (jv_c1_s (i := 2) rfl hc) (by intro q; cases q) hi hl) T3)⟩
theorem jv_astore3 {d pc : Nat} {M : jv_M} {L S : List Value} {G G' : jv_Gr} {I I' : jv_I} {J J' : jv_J} {r : Option Value} {a0 a1 a2 z : Value} {x : Nat} (hd : decode M.2.1 pc = .ok (.astore_n 3, 1)) (hc : a2.category = 1) (h : jv_V d M (pc + 1) (a0 :: a1 :: a2 :: .ref x :: L) S G I J r G' I' J') : jv_V d M pc (a0 :: a1 :: a2 :: z :: L) (.ref x :: S) G I J r G' I' J' := ⟨h.1, fun p l e R s m args below meth c H locs cells slots ls ad base D cA adS mc ms C T1 T2 T3 => by
  have hi : 3 < M.2.2.1 := by rw [← T2.1]; simp
  exact (by
  have hk : ∀ ls' : Array Slot, lv_has ls' M.2.2.1 ((3, jv_v ad (.ref x)) :: (jv_lv ad (a0 :: a1 :: a2 :: z :: L)).filter (fun q => !(q.1 == 3) && !(q.1 + 1 == 3 && q.2.category == 2))) → W p l e R s m args below meth c H locs cells slots (MQ below (jv_Q base D cA ad (jv_n G) r G' I' J') args s mc ms (fun q => base ≤ q)) (F0 m (pc + 1) ls' (S.map (jv_v ad))) := fun ls' hl => h.2 p l e R s m args below meth c H locs cells slots ls' ad base D cA adS mc ms C T1 (T2.put1 (i := 3) (v := .ref x) (jv_c1_s (i := 2) rfl hc) (by intro q; cases q) hi hl) T3
  by_cases hx : x = 0
  · subst hx
    exact lv_astore_nN C.1 C.2.1 hd rfl T2.has hi rfl hk
  · rw [jv_v_ref ad hx] at hk
    rw [List.map_cons, jv_v_ref ad hx]
    exact lv_astore_n C.1 C.2.1 hd rfl T2.has hi rfl hk)⟩
theorem jv_iinc3 {d pc : Nat} {M : jv_M} {L S : List Value} {G G' : jv_Gr} {I I' : jv_I} {J J' : jv_J} {r : Option Value} {a0 a1 a2 : Value} {x v : Int32} {n : Int} (hd : decode M.2.1 pc = .ok (.iinc 3 n, 3)) (hv : x + Int32.ofInt n = v) (hc : a2.category = 1) (h : jv_V d M (pc + 3) (a0 :: a1 :: a2 :: .int v :: L) S G I J r G' I' J') : jv_V d M pc (a0 :: a1 :: a2 :: .int x :: L) S G I J r G' I' J' := ⟨h.1, fun p l e R s m args below meth c H locs cells slots ls ad base D cA adS mc ms C T1 T2 T3 => by
  have hi : 3 < M.2.2.1 := by rw [← T2.1]; simp
  obtain ⟨k, hk⟩ := List.getElem?_of_mem (jv_lv_in (ad := ad) (L := (a0 :: a1 :: a2 :: .int x :: L)) (i := 3) (v := .int x) rfl (by intro q; cases q))
  exact lv_iinc C.1 C.2.1 hd T2.has hk hv hi rfl (fun ls' hl => h.2 p l e R s m args below meth c H locs cells slots ls' ad base D cA adS mc ms C T1 (T2.put1 (i := 3) (v := .int v) (jv_c1_s (i := 2) rfl hc) (by intro q; cases q) hi hl) T3)⟩
theorem jv_iload4 {d pc : Nat} {M : jv_M} {L S : List Value} {G G' : jv_Gr} {I I' : jv_I} {J J' : jv_J} {r : Option Value} {a0 a1 a2 a3 : Value} {x : Int32} (hd : decode M.2.1 pc = .ok (.iload 4, 2)) (h : jv_V d M (pc + 2) (a0 :: a1 :: a2 :: a3 :: .int x :: L) (.int x :: S) G I J r G' I' J') : jv_V d M pc (a0 :: a1 :: a2 :: a3 :: .int x :: L) S G I J r G' I' J' := ⟨h.1, fun p l e R s m args below meth c H locs cells slots ls ad base D cA adS mc ms C T1 T2 T3 => lv_iload C.1 C.2.1 hd (T2.at (i := 4) (v := .int x) rfl (by intro q; cases q)) (h.2 p l e R s m args below meth c H locs cells slots ls ad base D cA adS mc ms C T1 T2 T3)⟩
theorem jv_lload4 {d pc : Nat} {M : jv_M} {L S : List Value} {G G' : jv_Gr} {I I' : jv_I} {J J' : jv_J} {r : Option Value} {a0 a1 a2 a3 : Value} {x : Int64} (hd : decode M.2.1 pc = .ok (.lload 4, 2)) (h : jv_V d M (pc + 2) (a0 :: a1 :: a2 :: a3 :: .long x :: L) (.long x :: S) G I J r G' I' J') : jv_V d M pc (a0 :: a1 :: a2 :: a3 :: .long x :: L) S G I J r G' I' J' := ⟨h.1, fun p l e R s m args below meth c H locs cells slots ls ad base D cA adS mc ms C T1 T2 T3 => lv_lload C.1 C.2.1 hd (T2.at (i := 4) (v := .long x) rfl (by intro q; cases q)) (h.2 p l e R s m args below meth c H locs cells slots ls ad base D cA adS mc ms C T1 T2 T3)⟩
theorem jv_aload4 {d pc : Nat} {M : jv_M} {L S : List Value} {G G' : jv_Gr} {I I' : jv_I} {J J' : jv_J} {r : Option Value} {a0 a1 a2 a3 : Value} {x : Nat} (hd : decode M.2.1 pc = .ok (.aload 4, 2)) (h : jv_V d M (pc + 2) (a0 :: a1 :: a2 :: a3 :: .ref x :: L) (.ref x :: S) G I J r G' I' J') : jv_V d M pc (a0 :: a1 :: a2 :: a3 :: .ref x :: L) S G I J r G' I' J' := ⟨h.1, fun p l e R s m args below meth c H locs cells slots ls ad base D cA adS mc ms C T1 T2 T3 => by
  have hl := T2.at (i := 4) (v := .ref x) rfl (by intro q; cases q)
  have hk := h.2 p l e R s m args below meth c H locs cells slots ls ad base D cA adS mc ms C T1 T2 T3
  by_cases hx : x = 0
  · subst hx
    exact lv_aloadN C.1 C.2.1 hd hl hk
  · rw [jv_v_ref ad hx] at hl
    rw [List.map_cons, jv_v_ref ad hx] at hk
    exact lv_aload C.1 C.2.1 hd hl hk⟩
theorem jv_istore4 {d pc : Nat} {M : jv_M} {L S : List Value} {G G' : jv_Gr} {I I' : jv_I} {J J' : jv_J} {r : Option Value} {a0 a1 a2 a3 z : Value} {x : Int32} (hd : decode M.2.1 pc = .ok (.istore 4, 2)) (hc : a3.category = 1) (h : jv_V d M (pc + 2) (a0 :: a1 :: a2 :: a3 :: .int x :: L) S G I J r G' I' J') : jv_V d M pc (a0 :: a1 :: a2 :: a3 :: z :: L) (.int x :: S) G I J r G' I' J' := ⟨h.1, fun p l e R s m args below meth c H locs cells slots ls ad base D cA adS mc ms C T1 T2 T3 => by
  have hi : 4 < M.2.2.1 := by rw [← T2.1]; simp
  exact lv_istore C.1 C.2.1 hd T2.has hi rfl (fun ls' hl => h.2 p l e R s m args below meth c H locs cells slots ls' ad base D cA adS mc ms C T1 (T2.put1 (i := 4) (v := .int x) (jv_c1_s (i := 3) rfl hc) (by intro q; cases q) hi hl) T3)⟩
theorem jv_astore4 {d pc : Nat} {M : jv_M} {L S : List Value} {G G' : jv_Gr} {I I' : jv_I} {J J' : jv_J} {r : Option Value} {a0 a1 a2 a3 z : Value} {x : Nat} (hd : decode M.2.1 pc = .ok (.astore 4, 2)) (hc : a3.category = 1) (h : jv_V d M (pc + 2) (a0 :: a1 :: a2 :: a3 :: .ref x :: L) S G I J r G' I' J') : jv_V d M pc (a0 :: a1 :: a2 :: a3 :: z :: L) (.ref x :: S) G I J r G' I' J' := ⟨h.1, fun p l e R s m args below meth c H locs cells slots ls ad base D cA adS mc ms C T1 T2 T3 => by
  have hi : 4 < M.2.2.1 := by rw [← T2.1]; simp
  exact (by
  have hk : ∀ ls' : Array Slot, lv_has ls' M.2.2.1 ((4, jv_v ad (.ref x)) :: (jv_lv ad (a0 :: a1 :: a2 :: a3 :: z :: L)).filter (fun q => !(q.1 == 4) && !(q.1 + 1 == 4 && q.2.category == 2))) → W p l e R s m args below meth c H locs cells slots (MQ below (jv_Q base D cA ad (jv_n G) r G' I' J') args s mc ms (fun q => base ≤ q)) (F0 m (pc + 2) ls' (S.map (jv_v ad))) := fun ls' hl => h.2 p l e R s m args below meth c H locs cells slots ls' ad base D cA adS mc ms C T1 (T2.put1 (i := 4) (v := .ref x) (jv_c1_s (i := 3) rfl hc) (by intro q; cases q) hi hl) T3
  by_cases hx : x = 0
  · subst hx
    exact lv_astoreN C.1 C.2.1 hd T2.has hi rfl hk
  · rw [jv_v_ref ad hx] at hk
    rw [List.map_cons, jv_v_ref ad hx]
    exact lv_astore C.1 C.2.1 hd T2.has hi rfl hk)⟩
theorem jv_iinc4 {d pc : Nat} {M : jv_M} {L S : List Value} {G G' : jv_Gr} {I I' : jv_I} {J J' : jv_J} {r : Option Value} {a0 a1 a2 a3 : Value} {x v : Int32} {n : Int} (hd : decode M.2.1 pc = .ok (.iinc 4 n, 3)) (hv : x + Int32.ofInt n = v) (hc : a3.category = 1) (h : jv_V d M (pc + 3) (a0 :: a1 :: a2 :: a3 :: .int v :: L) S G I J r G' I' J') : jv_V d M pc (a0 :: a1 :: a2 :: a3 :: .int x :: L) S G I J r G' I' J' := ⟨h.1, fun p l e R s m args below meth c H locs cells slots ls ad base D cA adS mc ms C T1 T2 T3 => by
  have hi : 4 < M.2.2.1 := by rw [← T2.1]; simp
  obtain ⟨k, hk⟩ := List.getElem?_of_mem (jv_lv_in (ad := ad) (L := (a0 :: a1 :: a2 :: a3 :: .int x :: L)) (i := 4) (v := .int x) rfl (by intro q; cases q))
  exact lv_iinc C.1 C.2.1 hd T2.has hk hv hi rfl (fun ls' hl => h.2 p l e R s m args below meth c H locs cells slots ls' ad base D cA adS mc ms C T1 (T2.put1 (i := 4) (v := .int v) (jv_c1_s (i := 3) rfl hc) (by intro q; cases q) hi hl) T3)⟩
theorem jv_iload5 {d pc : Nat} {M : jv_M} {L S : List Value} {G G' : jv_Gr} {I I' : jv_I} {J J' : jv_J} {r : Option Value} {a0 a1 a2 a3 a4 : Value} {x : Int32} (hd : decode M.2.1 pc = .ok (.iload 5, 2)) (h : jv_V d M (pc + 2) (a0 :: a1 :: a2 :: a3 :: a4 :: .int x :: L) (.int x :: S) G I J r G' I' J') : jv_V d M pc (a0 :: a1 :: a2 :: a3 :: a4 :: .int x :: L) S G I J r G' I' J' := ⟨h.1, fun p l e R s m args below meth c H locs cells slots ls ad base D cA adS mc ms C T1 T2 T3 => lv_iload C.1 C.2.1 hd (T2.at (i := 5) (v := .int x) rfl (by intro q; cases q)) (h.2 p l e R s m args below meth c H locs cells slots ls ad base D cA adS mc ms C T1 T2 T3)⟩
theorem jv_lload5 {d pc : Nat} {M : jv_M} {L S : List Value} {G G' : jv_Gr} {I I' : jv_I} {J J' : jv_J} {r : Option Value} {a0 a1 a2 a3 a4 : Value} {x : Int64} (hd : decode M.2.1 pc = .ok (.lload 5, 2)) (h : jv_V d M (pc + 2) (a0 :: a1 :: a2 :: a3 :: a4 :: .long x :: L) (.long x :: S) G I J r G' I' J') : jv_V d M pc (a0 :: a1 :: a2 :: a3 :: a4 :: .long x :: L) S G I J r G' I' J' := ⟨h.1, fun p l e R s m args below meth c H locs cells slots ls ad base D cA adS mc ms C T1 T2 T3 => lv_lload C.1 C.2.1 hd (T2.at (i := 5) (v := .long x) rfl (by intro q; cases q)) (h.2 p l e R s m args below meth c H locs cells slots ls ad base D cA adS mc ms C T1 T2 T3)⟩
theorem jv_aload5 {d pc : Nat} {M : jv_M} {L S : List Value} {G G' : jv_Gr} {I I' : jv_I} {J J' : jv_J} {r : Option Value} {a0 a1 a2 a3 a4 : Value} {x : Nat} (hd : decode M.2.1 pc = .ok (.aload 5, 2)) (h : jv_V d M (pc + 2) (a0 :: a1 :: a2 :: a3 :: a4 :: .ref x :: L) (.ref x :: S) G I J r G' I' J') : jv_V d M pc (a0 :: a1 :: a2 :: a3 :: a4 :: .ref x :: L) S G I J r G' I' J' := ⟨h.1, fun p l e R s m args below meth c H locs cells slots ls ad base D cA adS mc ms C T1 T2 T3 => by
  have hl := T2.at (i := 5) (v := .ref x) rfl (by intro q; cases q)
  have hk := h.2 p l e R s m args below meth c H locs cells slots ls ad base D cA adS mc ms C T1 T2 T3
  by_cases hx : x = 0
  · subst hx
    exact lv_aloadN C.1 C.2.1 hd hl hk
  · rw [jv_v_ref ad hx] at hl
    rw [List.map_cons, jv_v_ref ad hx] at hk
    exact lv_aload C.1 C.2.1 hd hl hk⟩
theorem jv_istore5 {d pc : Nat} {M : jv_M} {L S : List Value} {G G' : jv_Gr} {I I' : jv_I} {J J' : jv_J} {r : Option Value} {a0 a1 a2 a3 a4 z : Value} {x : Int32} (hd : decode M.2.1 pc = .ok (.istore 5, 2)) (hc : a4.category = 1) (h : jv_V d M (pc + 2) (a0 :: a1 :: a2 :: a3 :: a4 :: .int x :: L) S G I J r G' I' J') : jv_V d M pc (a0 :: a1 :: a2 :: a3 :: a4 :: z :: L) (.int x :: S) G I J r G' I' J' := ⟨h.1, fun p l e R s m args below meth c H locs cells slots ls ad base D cA adS mc ms C T1 T2 T3 => by
  have hi : 5 < M.2.2.1 := by rw [← T2.1]; simp
  exact lv_istore C.1 C.2.1 hd T2.has hi rfl (fun ls' hl => h.2 p l e R s m args below meth c H locs cells slots ls' ad base D cA adS mc ms C T1 (T2.put1 (i := 5) (v := .int x) (jv_c1_s (i := 4) rfl hc) (by intro q; cases q) hi hl) T3)⟩
theorem jv_astore5 {d pc : Nat} {M : jv_M} {L S : List Value} {G G' : jv_Gr} {I I' : jv_I} {J J' : jv_J} {r : Option Value} {a0 a1 a2 a3 a4 z : Value} {x : Nat} (hd : decode M.2.1 pc = .ok (.astore 5, 2)) (hc : a4.category = 1) (h : jv_V d M (pc + 2) (a0 :: a1 :: a2 :: a3 :: a4 :: .ref x :: L) S G I J r G' I' J') : jv_V d M pc (a0 :: a1 :: a2 :: a3 :: a4 :: z :: L) (.ref x :: S) G I J r G' I' J' := ⟨h.1, fun p l e R s m args below meth c H locs cells slots ls ad base D cA adS mc ms C T1 T2 T3 => by
  have hi : 5 < M.2.2.1 := by rw [← T2.1]; simp
  exact (by
  have hk : ∀ ls' : Array Slot, lv_has ls' M.2.2.1 ((5, jv_v ad (.ref x)) :: (jv_lv ad (a0 :: a1 :: a2 :: a3 :: a4 :: z :: L)).filter (fun q => !(q.1 == 5) && !(q.1 + 1 == 5 && q.2.category == 2))) → W p l e R s m args below meth c H locs cells slots (MQ below (jv_Q base D cA ad (jv_n G) r G' I' J') args s mc ms (fun q => base ≤ q)) (F0 m (pc + 2) ls' (S.map (jv_v ad))) := fun ls' hl => h.2 p l e R s m args below meth c H locs cells slots ls' ad base D cA adS mc ms C T1 (T2.put1 (i := 5) (v := .ref x) (jv_c1_s (i := 4) rfl hc) (by intro q; cases q) hi hl) T3
  by_cases hx : x = 0
  · subst hx
    exact lv_astoreN C.1 C.2.1 hd T2.has hi rfl hk
  · rw [jv_v_ref ad hx] at hk
    rw [List.map_cons, jv_v_ref ad hx]
    exact lv_astore C.1 C.2.1 hd T2.has hi rfl hk)⟩
theorem jv_iinc5 {d pc : Nat} {M : jv_M} {L S : List Value} {G G' : jv_Gr} {I I' : jv_I} {J J' : jv_J} {r : Option Value} {a0 a1 a2 a3 a4 : Value} {x v : Int32} {n : Int} (hd : decode M.2.1 pc = .ok (.iinc 5 n, 3)) (hv : x + Int32.ofInt n = v) (hc : a4.category = 1) (h : jv_V d M (pc + 3) (a0 :: a1 :: a2 :: a3 :: a4 :: .int v :: L) S G I J r G' I' J') : jv_V d M pc (a0 :: a1 :: a2 :: a3 :: a4 :: .int x :: L) S G I J r G' I' J' := ⟨h.1, fun p l e R s m args below meth c H locs cells slots ls ad base D cA adS mc ms C T1 T2 T3 => by
  have hi : 5 < M.2.2.1 := by rw [← T2.1]; simp
  obtain ⟨k, hk⟩ := List.getElem?_of_mem (jv_lv_in (ad := ad) (L := (a0 :: a1 :: a2 :: a3 :: a4 :: .int x :: L)) (i := 5) (v := .int x) rfl (by intro q; cases q))
  exact lv_iinc C.1 C.2.1 hd T2.has hk hv hi rfl (fun ls' hl => h.2 p l e R s m args below meth c H locs cells slots ls' ad base D cA adS mc ms C T1 (T2.put1 (i := 5) (v := .int v) (jv_c1_s (i := 4) rfl hc) (by intro q; cases q) hi hl) T3)⟩
theorem jv_iload6 {d pc : Nat} {M : jv_M} {L S : List Value} {G G' : jv_Gr} {I I' : jv_I} {J J' : jv_J} {r : Option Value} {a0 a1 a2 a3 a4 a5 : Value} {x : Int32} (hd : decode M.2.1 pc = .ok (.iload 6, 2)) (h : jv_V d M (pc + 2) (a0 :: a1 :: a2 :: a3 :: a4 :: a5 :: .int x :: L) (.int x :: S) G I J r G' I' J') : jv_V d M pc (a0 :: a1 :: a2 :: a3 :: a4 :: a5 :: .int x :: L) S G I J r G' I' J' := ⟨h.1, fun p l e R s m args below meth c H locs cells slots ls ad base D cA adS mc ms C T1 T2 T3 => lv_iload C.1 C.2.1 hd (T2.at (i := 6) (v := .int x) rfl (by intro q; cases q)) (h.2 p l e R s m args below meth c H locs cells slots ls ad base D cA adS mc ms C T1 T2 T3)⟩
theorem jv_lload6 {d pc : Nat} {M : jv_M} {L S : List Value} {G G' : jv_Gr} {I I' : jv_I} {J J' : jv_J} {r : Option Value} {a0 a1 a2 a3 a4 a5 : Value} {x : Int64} (hd : decode M.2.1 pc = .ok (.lload 6, 2)) (h : jv_V d M (pc + 2) (a0 :: a1 :: a2 :: a3 :: a4 :: a5 :: .long x :: L) (.long x :: S) G I J r G' I' J') : jv_V d M pc (a0 :: a1 :: a2 :: a3 :: a4 :: a5 :: .long x :: L) S G I J r G' I' J' := ⟨h.1, fun p l e R s m args below meth c H locs cells slots ls ad base D cA adS mc ms C T1 T2 T3 => lv_lload C.1 C.2.1 hd (T2.at (i := 6) (v := .long x) rfl (by intro q; cases q)) (h.2 p l e R s m args below meth c H locs cells slots ls ad base D cA adS mc ms C T1 T2 T3)⟩
theorem jv_aload6 {d pc : Nat} {M : jv_M} {L S : List Value} {G G' : jv_Gr} {I I' : jv_I} {J J' : jv_J} {r : Option Value} {a0 a1 a2 a3 a4 a5 : Value} {x : Nat} (hd : decode M.2.1 pc = .ok (.aload 6, 2)) (h : jv_V d M (pc + 2) (a0 :: a1 :: a2 :: a3 :: a4 :: a5 :: .ref x :: L) (.ref x :: S) G I J r G' I' J') : jv_V d M pc (a0 :: a1 :: a2 :: a3 :: a4 :: a5 :: .ref x :: L) S G I J r G' I' J' := ⟨h.1, fun p l e R s m args below meth c H locs cells slots ls ad base D cA adS mc ms C T1 T2 T3 => by
  have hl := T2.at (i := 6) (v := .ref x) rfl (by intro q; cases q)
  have hk := h.2 p l e R s m args below meth c H locs cells slots ls ad base D cA adS mc ms C T1 T2 T3
  by_cases hx : x = 0
  · subst hx
    exact lv_aloadN C.1 C.2.1 hd hl hk
  · rw [jv_v_ref ad hx] at hl
    rw [List.map_cons, jv_v_ref ad hx] at hk
    exact lv_aload C.1 C.2.1 hd hl hk⟩
theorem jv_istore6 {d pc : Nat} {M : jv_M} {L S : List Value} {G G' : jv_Gr} {I I' : jv_I} {J J' : jv_J} {r : Option Value} {a0 a1 a2 a3 a4 a5 z : Value} {x : Int32} (hd : decode M.2.1 pc = .ok (.istore 6, 2)) (hc : a5.category = 1) (h : jv_V d M (pc + 2) (a0 :: a1 :: a2 :: a3 :: a4 :: a5 :: .int x :: L) S G I J r G' I' J') : jv_V d M pc (a0 :: a1 :: a2 :: a3 :: a4 :: a5 :: z :: L) (.int x :: S) G I J r G' I' J' := ⟨h.1, fun p l e R s m args below meth c H locs cells slots ls ad base D cA adS mc ms C T1 T2 T3 => by
  have hi : 6 < M.2.2.1 := by rw [← T2.1]; simp
  exact lv_istore C.1 C.2.1 hd T2.has hi rfl (fun ls' hl => h.2 p l e R s m args below meth c H locs cells slots ls' ad base D cA adS mc ms C T1 (T2.put1 (i := 6) (v := .int x) (jv_c1_s (i := 5) rfl hc) (by intro q; cases q) hi hl) T3)⟩
theorem jv_astore6 {d pc : Nat} {M : jv_M} {L S : List Value} {G G' : jv_Gr} {I I' : jv_I} {J J' : jv_J} {r : Option Value} {a0 a1 a2 a3 a4 a5 z : Value} {x : Nat} (hd : decode M.2.1 pc = .ok (.astore 6, 2)) (hc : a5.category = 1) (h : jv_V d M (pc + 2) (a0 :: a1 :: a2 :: a3 :: a4 :: a5 :: .ref x :: L) S G I J r G' I' J') : jv_V d M pc (a0 :: a1 :: a2 :: a3 :: a4 :: a5 :: z :: L) (.ref x :: S) G I J r G' I' J' := ⟨h.1, fun p l e R s m args below meth c H locs cells slots ls ad base D cA adS mc ms C T1 T2 T3 => by
  have hi : 6 < M.2.2.1 := by rw [← T2.1]; simp
  exact (by
  have hk : ∀ ls' : Array Slot, lv_has ls' M.2.2.1 ((6, jv_v ad (.ref x)) :: (jv_lv ad (a0 :: a1 :: a2 :: a3 :: a4 :: a5 :: z :: L)).filter (fun q => !(q.1 == 6) && !(q.1 + 1 == 6 && q.2.category == 2))) → W p l e R s m args below meth c H locs cells slots (MQ below (jv_Q base D cA ad (jv_n G) r G' I' J') args s mc ms (fun q => base ≤ q)) (F0 m (pc + 2) ls' (S.map (jv_v ad))) := fun ls' hl => h.2 p l e R s m args below meth c H locs cells slots ls' ad base D cA adS mc ms C T1 (T2.put1 (i := 6) (v := .ref x) (jv_c1_s (i := 5) rfl hc) (by intro q; cases q) hi hl) T3
  by_cases hx : x = 0
  · subst hx
    exact lv_astoreN C.1 C.2.1 hd T2.has hi rfl hk
  · rw [jv_v_ref ad hx] at hk
    rw [List.map_cons, jv_v_ref ad hx]
    exact lv_astore C.1 C.2.1 hd T2.has hi rfl hk)⟩
theorem jv_iinc6 {d pc : Nat} {M : jv_M} {L S : List Value} {G G' : jv_Gr} {I I' : jv_I} {J J' : jv_J} {r : Option Value} {a0 a1 a2 a3 a4 a5 : Value} {x v : Int32} {n : Int} (hd : decode M.2.1 pc = .ok (.iinc 6 n, 3)) (hv : x + Int32.ofInt n = v) (hc : a5.category = 1) (h : jv_V d M (pc + 3) (a0 :: a1 :: a2 :: a3 :: a4 :: a5 :: .int v :: L) S G I J r G' I' J') : jv_V d M pc (a0 :: a1 :: a2 :: a3 :: a4 :: a5 :: .int x :: L) S G I J r G' I' J' := ⟨h.1, fun p l e R s m args below meth c H locs cells slots ls ad base D cA adS mc ms C T1 T2 T3 => by
  have hi : 6 < M.2.2.1 := by rw [← T2.1]; simp
  obtain ⟨k, hk⟩ := List.getElem?_of_mem (jv_lv_in (ad := ad) (L := (a0 :: a1 :: a2 :: a3 :: a4 :: a5 :: .int x :: L)) (i := 6) (v := .int x) rfl (by intro q; cases q))
  exact lv_iinc C.1 C.2.1 hd T2.has hk hv hi rfl (fun ls' hl => h.2 p l e R s m args below meth c H locs cells slots ls' ad base D cA adS mc ms C T1 (T2.put1 (i := 6) (v := .int v) (jv_c1_s (i := 5) rfl hc) (by intro q; cases q) hi hl) T3)⟩
theorem jv_iload7 {d pc : Nat} {M : jv_M} {L S : List Value} {G G' : jv_Gr} {I I' : jv_I} {J J' : jv_J} {r : Option Value} {a0 a1 a2 a3 a4 a5 a6 : Value} {x : Int32} (hd : decode M.2.1 pc = .ok (.iload 7, 2)) (h : jv_V d M (pc + 2) (a0 :: a1 :: a2 :: a3 :: a4 :: a5 :: a6 :: .int x :: L) (.int x :: S) G I J r G' I' J') : jv_V d M pc (a0 :: a1 :: a2 :: a3 :: a4 :: a5 :: a6 :: .int x :: L) S G I J r G' I' J' := ⟨h.1, fun p l e R s m args below meth c H locs cells slots ls ad base D cA adS mc ms C T1 T2 T3 => lv_iload C.1 C.2.1 hd (T2.at (i := 7) (v := .int x) rfl (by intro q; cases q)) (h.2 p l e R s m args below meth c H locs cells slots ls ad base D cA adS mc ms C T1 T2 T3)⟩
theorem jv_lload7 {d pc : Nat} {M : jv_M} {L S : List Value} {G G' : jv_Gr} {I I' : jv_I} {J J' : jv_J} {r : Option Value} {a0 a1 a2 a3 a4 a5 a6 : Value} {x : Int64} (hd : decode M.2.1 pc = .ok (.lload 7, 2)) (h : jv_V d M (pc + 2) (a0 :: a1 :: a2 :: a3 :: a4 :: a5 :: a6 :: .long x :: L) (.long x :: S) G I J r G' I' J') : jv_V d M pc (a0 :: a1 :: a2 :: a3 :: a4 :: a5 :: a6 :: .long x :: L) S G I J r G' I' J' := ⟨h.1, fun p l e R s m args below meth c H locs cells slots ls ad base D cA adS mc ms C T1 T2 T3 => lv_lload C.1 C.2.1 hd (T2.at (i := 7) (v := .long x) rfl (by intro q; cases q)) (h.2 p l e R s m args below meth c H locs cells slots ls ad base D cA adS mc ms C T1 T2 T3)⟩
theorem jv_aload7 {d pc : Nat} {M : jv_M} {L S : List Value} {G G' : jv_Gr} {I I' : jv_I} {J J' : jv_J} {r : Option Value} {a0 a1 a2 a3 a4 a5 a6 : Value} {x : Nat} (hd : decode M.2.1 pc = .ok (.aload 7, 2)) (h : jv_V d M (pc + 2) (a0 :: a1 :: a2 :: a3 :: a4 :: a5 :: a6 :: .ref x :: L) (.ref x :: S) G I J r G' I' J') : jv_V d M pc (a0 :: a1 :: a2 :: a3 :: a4 :: a5 :: a6 :: .ref x :: L) S G I J r G' I' J' := ⟨h.1, fun p l e R s m args below meth c H locs cells slots ls ad base D cA adS mc ms C T1 T2 T3 => by
  have hl := T2.at (i := 7) (v := .ref x) rfl (by intro q; cases q)
  have hk := h.2 p l e R s m args below meth c H locs cells slots ls ad base D cA adS mc ms C T1 T2 T3
  by_cases hx : x = 0
  · subst hx
    exact lv_aloadN C.1 C.2.1 hd hl hk
  · rw [jv_v_ref ad hx] at hl
    rw [List.map_cons, jv_v_ref ad hx] at hk
    exact lv_aload C.1 C.2.1 hd hl hk⟩
theorem jv_istore7 {d pc : Nat} {M : jv_M} {L S : List Value} {G G' : jv_Gr} {I I' : jv_I} {J J' : jv_J} {r : Option Value} {a0 a1 a2 a3 a4 a5 a6 z : Value} {x : Int32} (hd : decode M.2.1 pc = .ok (.istore 7, 2)) (hc : a6.category = 1) (h : jv_V d M (pc + 2) (a0 :: a1 :: a2 :: a3 :: a4 :: a5 :: a6 :: .int x :: L) S G I J r G' I' J') : jv_V d M pc (a0 :: a1 :: a2 :: a3 :: a4 :: a5 :: a6 :: z :: L) (.int x :: S) G I J r G' I' J' := ⟨h.1, fun p l e R s m args below meth c H locs cells slots ls ad base D cA adS mc ms C T1 T2 T3 => by
  have hi : 7 < M.2.2.1 := by rw [← T2.1]; simp
  exact lv_istore C.1 C.2.1 hd T2.has hi rfl (fun ls' hl => h.2 p l e R s m args below meth c H locs cells slots ls' ad base D cA adS mc ms C T1 (T2.put1 (i := 7) (v := .int x) (jv_c1_s (i := 6) rfl hc) (by intro q; cases q) hi hl) T3)⟩
theorem jv_astore7 {d pc : Nat} {M : jv_M} {L S : List Value} {G G' : jv_Gr} {I I' : jv_I} {J J' : jv_J} {r : Option Value} {a0 a1 a2 a3 a4 a5 a6 z : Value} {x : Nat} (hd : decode M.2.1 pc = .ok (.astore 7, 2)) (hc : a6.category = 1) (h : jv_V d M (pc + 2) (a0 :: a1 :: a2 :: a3 :: a4 :: a5 :: a6 :: .ref x :: L) S G I J r G' I' J') : jv_V d M pc (a0 :: a1 :: a2 :: a3 :: a4 :: a5 :: a6 :: z :: L) (.ref x :: S) G I J r G' I' J' := ⟨h.1, fun p l e R s m args below meth c H locs cells slots ls ad base D cA adS mc ms C T1 T2 T3 => by
  have hi : 7 < M.2.2.1 := by rw [← T2.1]; simp
  exact (by
  have hk : ∀ ls' : Array Slot, lv_has ls' M.2.2.1 ((7, jv_v ad (.ref x)) :: (jv_lv ad (a0 :: a1 :: a2 :: a3 :: a4 :: a5 :: a6 :: z :: L)).filter (fun q => !(q.1 == 7) && !(q.1 + 1 == 7 && q.2.category == 2))) → W p l e R s m args below meth c H locs cells slots (MQ below (jv_Q base D cA ad (jv_n G) r G' I' J') args s mc ms (fun q => base ≤ q)) (F0 m (pc + 2) ls' (S.map (jv_v ad))) := fun ls' hl => h.2 p l e R s m args below meth c H locs cells slots ls' ad base D cA adS mc ms C T1 (T2.put1 (i := 7) (v := .ref x) (jv_c1_s (i := 6) rfl hc) (by intro q; cases q) hi hl) T3
  by_cases hx : x = 0
  · subst hx
    exact lv_astoreN C.1 C.2.1 hd T2.has hi rfl hk
  · rw [jv_v_ref ad hx] at hk
    rw [List.map_cons, jv_v_ref ad hx]
    exact lv_astore C.1 C.2.1 hd T2.has hi rfl hk)⟩
theorem jv_iinc7 {d pc : Nat} {M : jv_M} {L S : List Value} {G G' : jv_Gr} {I I' : jv_I} {J J' : jv_J} {r : Option Value} {a0 a1 a2 a3 a4 a5 a6 : Value} {x v : Int32} {n : Int} (hd : decode M.2.1 pc = .ok (.iinc 7 n, 3)) (hv : x + Int32.ofInt n = v) (hc : a6.category = 1) (h : jv_V d M (pc + 3) (a0 :: a1 :: a2 :: a3 :: a4 :: a5 :: a6 :: .int v :: L) S G I J r G' I' J') : jv_V d M pc (a0 :: a1 :: a2 :: a3 :: a4 :: a5 :: a6 :: .int x :: L) S G I J r G' I' J' := ⟨h.1, fun p l e R s m args below meth c H locs cells slots ls ad base D cA adS mc ms C T1 T2 T3 => by
  have hi : 7 < M.2.2.1 := by rw [← T2.1]; simp
  obtain ⟨k, hk⟩ := List.getElem?_of_mem (jv_lv_in (ad := ad) (L := (a0 :: a1 :: a2 :: a3 :: a4 :: a5 :: a6 :: .int x :: L)) (i := 7) (v := .int x) rfl (by intro q; cases q))
  exact lv_iinc C.1 C.2.1 hd T2.has hk hv hi rfl (fun ls' hl => h.2 p l e R s m args below meth c H locs cells slots ls' ad base D cA adS mc ms C T1 (T2.put1 (i := 7) (v := .int v) (jv_c1_s (i := 6) rfl hc) (by intro q; cases q) hi hl) T3)⟩
theorem jv_iload8 {d pc : Nat} {M : jv_M} {L S : List Value} {G G' : jv_Gr} {I I' : jv_I} {J J' : jv_J} {r : Option Value} {a0 a1 a2 a3 a4 a5 a6 a7 : Value} {x : Int32} (hd : decode M.2.1 pc = .ok (.iload 8, 2)) (h : jv_V d M (pc + 2) (a0 :: a1 :: a2 :: a3 :: a4 :: a5 :: a6 :: a7 :: .int x :: L) (.int x :: S) G I J r G' I' J') : jv_V d M pc (a0 :: a1 :: a2 :: a3 :: a4 :: a5 :: a6 :: a7 :: .int x :: L) S G I J r G' I' J' := ⟨h.1, fun p l e R s m args below meth c H locs cells slots ls ad base D cA adS mc ms C T1 T2 T3 => lv_iload C.1 C.2.1 hd (T2.at (i := 8) (v := .int x) rfl (by intro q; cases q)) (h.2 p l e R s m args below meth c H locs cells slots ls ad base D cA adS mc ms C T1 T2 T3)⟩
theorem jv_lload8 {d pc : Nat} {M : jv_M} {L S : List Value} {G G' : jv_Gr} {I I' : jv_I} {J J' : jv_J} {r : Option Value} {a0 a1 a2 a3 a4 a5 a6 a7 : Value} {x : Int64} (hd : decode M.2.1 pc = .ok (.lload 8, 2)) (h : jv_V d M (pc + 2) (a0 :: a1 :: a2 :: a3 :: a4 :: a5 :: a6 :: a7 :: .long x :: L) (.long x :: S) G I J r G' I' J') : jv_V d M pc (a0 :: a1 :: a2 :: a3 :: a4 :: a5 :: a6 :: a7 :: .long x :: L) S G I J r G' I' J' := ⟨h.1, fun p l e R s m args below meth c H locs cells slots ls ad base D cA adS mc ms C T1 T2 T3 => lv_lload C.1 C.2.1 hd (T2.at (i := 8) (v := .long x) rfl (by intro q; cases q)) (h.2 p l e R s m args below meth c H locs cells slots ls ad base D cA adS mc ms C T1 T2 T3)⟩
theorem jv_aload8 {d pc : Nat} {M : jv_M} {L S : List Value} {G G' : jv_Gr} {I I' : jv_I} {J J' : jv_J} {r : Option Value} {a0 a1 a2 a3 a4 a5 a6 a7 : Value} {x : Nat} (hd : decode M.2.1 pc = .ok (.aload 8, 2)) (h : jv_V d M (pc + 2) (a0 :: a1 :: a2 :: a3 :: a4 :: a5 :: a6 :: a7 :: .ref x :: L) (.ref x :: S) G I J r G' I' J') : jv_V d M pc (a0 :: a1 :: a2 :: a3 :: a4 :: a5 :: a6 :: a7 :: .ref x :: L) S G I J r G' I' J' := ⟨h.1, fun p l e R s m args below meth c H locs cells slots ls ad base D cA adS mc ms C T1 T2 T3 => by
  have hl := T2.at (i := 8) (v := .ref x) rfl (by intro q; cases q)
  have hk := h.2 p l e R s m args below meth c H locs cells slots ls ad base D cA adS mc ms C T1 T2 T3
  by_cases hx : x = 0
  · subst hx
    exact lv_aloadN C.1 C.2.1 hd hl hk
  · rw [jv_v_ref ad hx] at hl
    rw [List.map_cons, jv_v_ref ad hx] at hk
    exact lv_aload C.1 C.2.1 hd hl hk⟩
theorem jv_istore8 {d pc : Nat} {M : jv_M} {L S : List Value} {G G' : jv_Gr} {I I' : jv_I} {J J' : jv_J} {r : Option Value} {a0 a1 a2 a3 a4 a5 a6 a7 z : Value} {x : Int32} (hd : decode M.2.1 pc = .ok (.istore 8, 2)) (hc : a7.category = 1) (h : jv_V d M (pc + 2) (a0 :: a1 :: a2 :: a3 :: a4 :: a5 :: a6 :: a7 :: .int x :: L) S G I J r G' I' J') : jv_V d M pc (a0 :: a1 :: a2 :: a3 :: a4 :: a5 :: a6 :: a7 :: z :: L) (.int x :: S) G I J r G' I' J' := ⟨h.1, fun p l e R s m args below meth c H locs cells slots ls ad base D cA adS mc ms C T1 T2 T3 => by
  have hi : 8 < M.2.2.1 := by rw [← T2.1]; simp
  exact lv_istore C.1 C.2.1 hd T2.has hi rfl (fun ls' hl => h.2 p l e R s m args below meth c H locs cells slots ls' ad base D cA adS mc ms C T1 (T2.put1 (i := 8) (v := .int x) (jv_c1_s (i := 7) rfl hc) (by intro q; cases q) hi hl) T3)⟩
theorem jv_astore8 {d pc : Nat} {M : jv_M} {L S : List Value} {G G' : jv_Gr} {I I' : jv_I} {J J' : jv_J} {r : Option Value} {a0 a1 a2 a3 a4 a5 a6 a7 z : Value} {x : Nat} (hd : decode M.2.1 pc = .ok (.astore 8, 2)) (hc : a7.category = 1) (h : jv_V d M (pc + 2) (a0 :: a1 :: a2 :: a3 :: a4 :: a5 :: a6 :: a7 :: .ref x :: L) S G I J r G' I' J') : jv_V d M pc (a0 :: a1 :: a2 :: a3 :: a4 :: a5 :: a6 :: a7 :: z :: L) (.ref x :: S) G I J r G' I' J' := ⟨h.1, fun p l e R s m args below meth c H locs cells slots ls ad base D cA adS mc ms C T1 T2 T3 => by
  have hi : 8 < M.2.2.1 := by rw [← T2.1]; simp
  exact (by
  have hk : ∀ ls' : Array Slot, lv_has ls' M.2.2.1 ((8, jv_v ad (.ref x)) :: (jv_lv ad (a0 :: a1 :: a2 :: a3 :: a4 :: a5 :: a6 :: a7 :: z :: L)).filter (fun q => !(q.1 == 8) && !(q.1 + 1 == 8 && q.2.category == 2))) → W p l e R s m args below meth c H locs cells slots (MQ below (jv_Q base D cA ad (jv_n G) r G' I' J') args s mc ms (fun q => base ≤ q)) (F0 m (pc + 2) ls' (S.map (jv_v ad))) := fun ls' hl => h.2 p l e R s m args below meth c H locs cells slots ls' ad base D cA adS mc ms C T1 (T2.put1 (i := 8) (v := .ref x) (jv_c1_s (i := 7) rfl hc) (by intro q; cases q) hi hl) T3
  by_cases hx : x = 0
  · subst hx
    exact lv_astoreN C.1 C.2.1 hd T2.has hi rfl hk
  · rw [jv_v_ref ad hx] at hk
    rw [List.map_cons, jv_v_ref ad hx]
    exact lv_astore C.1 C.2.1 hd T2.has hi rfl hk)⟩
theorem jv_iinc8 {d pc : Nat} {M : jv_M} {L S : List Value} {G G' : jv_Gr} {I I' : jv_I} {J J' : jv_J} {r : Option Value} {a0 a1 a2 a3 a4 a5 a6 a7 : Value} {x v : Int32} {n : Int} (hd : decode M.2.1 pc = .ok (.iinc 8 n, 3)) (hv : x + Int32.ofInt n = v) (hc : a7.category = 1) (h : jv_V d M (pc + 3) (a0 :: a1 :: a2 :: a3 :: a4 :: a5 :: a6 :: a7 :: .int v :: L) S G I J r G' I' J') : jv_V d M pc (a0 :: a1 :: a2 :: a3 :: a4 :: a5 :: a6 :: a7 :: .int x :: L) S G I J r G' I' J' := ⟨h.1, fun p l e R s m args below meth c H locs cells slots ls ad base D cA adS mc ms C T1 T2 T3 => by
  have hi : 8 < M.2.2.1 := by rw [← T2.1]; simp
  obtain ⟨k, hk⟩ := List.getElem?_of_mem (jv_lv_in (ad := ad) (L := (a0 :: a1 :: a2 :: a3 :: a4 :: a5 :: a6 :: a7 :: .int x :: L)) (i := 8) (v := .int x) rfl (by intro q; cases q))
  exact lv_iinc C.1 C.2.1 hd T2.has hk hv hi rfl (fun ls' hl => h.2 p l e R s m args below meth c H locs cells slots ls' ad base D cA adS mc ms C T1 (T2.put1 (i := 8) (v := .int v) (jv_c1_s (i := 7) rfl hc) (by intro q; cases q) hi hl) T3)⟩
theorem jv_iload9 {d pc : Nat} {M : jv_M} {L S : List Value} {G G' : jv_Gr} {I I' : jv_I} {J J' : jv_J} {r : Option Value} {a0 a1 a2 a3 a4 a5 a6 a7 a8 : Value} {x : Int32} (hd : decode M.2.1 pc = .ok (.iload 9, 2)) (h : jv_V d M (pc + 2) (a0 :: a1 :: a2 :: a3 :: a4 :: a5 :: a6 :: a7 :: a8 :: .int x :: L) (.int x :: S) G I J r G' I' J') : jv_V d M pc (a0 :: a1 :: a2 :: a3 :: a4 :: a5 :: a6 :: a7 :: a8 :: .int x :: L) S G I J r G' I' J' := ⟨h.1, fun p l e R s m args below meth c H locs cells slots ls ad base D cA adS mc ms C T1 T2 T3 => lv_iload C.1 C.2.1 hd (T2.at (i := 9) (v := .int x) rfl (by intro q; cases q)) (h.2 p l e R s m args below meth c H locs cells slots ls ad base D cA adS mc ms C T1 T2 T3)⟩
theorem jv_lload9 {d pc : Nat} {M : jv_M} {L S : List Value} {G G' : jv_Gr} {I I' : jv_I} {J J' : jv_J} {r : Option Value} {a0 a1 a2 a3 a4 a5 a6 a7 a8 : Value} {x : Int64} (hd : decode M.2.1 pc = .ok (.lload 9, 2)) (h : jv_V d M (pc + 2) (a0 :: a1 :: a2 :: a3 :: a4 :: a5 :: a6 :: a7 :: a8 :: .long x :: L) (.long x :: S) G I J r G' I' J') : jv_V d M pc (a0 :: a1 :: a2 :: a3 :: a4 :: a5 :: a6 :: a7 :: a8 :: .long x :: L) S G I J r G' I' J' := ⟨h.1, fun p l e R s m args below meth c H locs cells slots ls ad base D cA adS mc ms C T1 T2 T3 => lv_lload C.1 C.2.1 hd (T2.at (i := 9) (v := .long x) rfl (by intro q; cases q)) (h.2 p l e R s m args below meth c H locs cells slots ls ad base D cA adS mc ms C T1 T2 T3)⟩
theorem jv_aload9 {d pc : Nat} {M : jv_M} {L S : List Value} {G G' : jv_Gr} {I I' : jv_I} {J J' : jv_J} {r : Option Value} {a0 a1 a2 a3 a4 a5 a6 a7 a8 : Value} {x : Nat} (hd : decode M.2.1 pc = .ok (.aload 9, 2)) (h : jv_V d M (pc + 2) (a0 :: a1 :: a2 :: a3 :: a4 :: a5 :: a6 :: a7 :: a8 :: .ref x :: L) (.ref x :: S) G I J r G' I' J') : jv_V d M pc (a0 :: a1 :: a2 :: a3 :: a4 :: a5 :: a6 :: a7 :: a8 :: .ref x :: L) S G I J r G' I' J' := ⟨h.1, fun p l e R s m args below meth c H locs cells slots ls ad base D cA adS mc ms C T1 T2 T3 => by
  have hl := T2.at (i := 9) (v := .ref x) rfl (by intro q; cases q)
  have hk := h.2 p l e R s m args below meth c H locs cells slots ls ad base D cA adS mc ms C T1 T2 T3
  by_cases hx : x = 0
  · subst hx
    exact lv_aloadN C.1 C.2.1 hd hl hk
  · rw [jv_v_ref ad hx] at hl
    rw [List.map_cons, jv_v_ref ad hx] at hk
    exact lv_aload C.1 C.2.1 hd hl hk⟩
theorem jv_istore9 {d pc : Nat} {M : jv_M} {L S : List Value} {G G' : jv_Gr} {I I' : jv_I} {J J' : jv_J} {r : Option Value} {a0 a1 a2 a3 a4 a5 a6 a7 a8 z : Value} {x : Int32} (hd : decode M.2.1 pc = .ok (.istore 9, 2)) (hc : a8.category = 1) (h : jv_V d M (pc + 2) (a0 :: a1 :: a2 :: a3 :: a4 :: a5 :: a6 :: a7 :: a8 :: .int x :: L) S G I J r G' I' J') : jv_V d M pc (a0 :: a1 :: a2 :: a3 :: a4 :: a5 :: a6 :: a7 :: a8 :: z :: L) (.int x :: S) G I J r G' I' J' := ⟨h.1, fun p l e R s m args below meth c H locs cells slots ls ad base D cA adS mc ms C T1 T2 T3 => by
  have hi : 9 < M.2.2.1 := by rw [← T2.1]; simp
  exact lv_istore C.1 C.2.1 hd T2.has hi rfl (fun ls' hl => h.2 p l e R s m args below meth c H locs cells slots ls' ad base D cA adS mc ms C T1 (T2.put1 (i := 9) (v := .int x) (jv_c1_s (i := 8) rfl hc) (by intro q; cases q) hi hl) T3)⟩
theorem jv_astore9 {d pc : Nat} {M : jv_M} {L S : List Value} {G G' : jv_Gr} {I I' : jv_I} {J J' : jv_J} {r : Option Value} {a0 a1 a2 a3 a4 a5 a6 a7 a8 z : Value} {x : Nat} (hd : decode M.2.1 pc = .ok (.astore 9, 2)) (hc : a8.category = 1) (h : jv_V d M (pc + 2) (a0 :: a1 :: a2 :: a3 :: a4 :: a5 :: a6 :: a7 :: a8 :: .ref x :: L) S G I J r G' I' J') : jv_V d M pc (a0 :: a1 :: a2 :: a3 :: a4 :: a5 :: a6 :: a7 :: a8 :: z :: L) (.ref x :: S) G I J r G' I' J' := ⟨h.1, fun p l e R s m args below meth c H locs cells slots ls ad base D cA adS mc ms C T1 T2 T3 => by
  have hi : 9 < M.2.2.1 := by rw [← T2.1]; simp
  exact (by
  have hk : ∀ ls' : Array Slot, lv_has ls' M.2.2.1 ((9, jv_v ad (.ref x)) :: (jv_lv ad (a0 :: a1 :: a2 :: a3 :: a4 :: a5 :: a6 :: a7 :: a8 :: z :: L)).filter (fun q => !(q.1 == 9) && !(q.1 + 1 == 9 && q.2.category == 2))) → W p l e R s m args below meth c H locs cells slots (MQ below (jv_Q base D cA ad (jv_n G) r G' I' J') args s mc ms (fun q => base ≤ q)) (F0 m (pc + 2) ls' (S.map (jv_v ad))) := fun ls' hl => h.2 p l e R s m args below meth c H locs cells slots ls' ad base D cA adS mc ms C T1 (T2.put1 (i := 9) (v := .ref x) (jv_c1_s (i := 8) rfl hc) (by intro q; cases q) hi hl) T3
  by_cases hx : x = 0
  · subst hx
    exact lv_astoreN C.1 C.2.1 hd T2.has hi rfl hk
  · rw [jv_v_ref ad hx] at hk
    rw [List.map_cons, jv_v_ref ad hx]
    exact lv_astore C.1 C.2.1 hd T2.has hi rfl hk)⟩
theorem jv_iinc9 {d pc : Nat} {M : jv_M} {L S : List Value} {G G' : jv_Gr} {I I' : jv_I} {J J' : jv_J} {r : Option Value} {a0 a1 a2 a3 a4 a5 a6 a7 a8 : Value} {x v : Int32} {n : Int} (hd : decode M.2.1 pc = .ok (.iinc 9 n, 3)) (hv : x + Int32.ofInt n = v) (hc : a8.category = 1) (h : jv_V d M (pc + 3) (a0 :: a1 :: a2 :: a3 :: a4 :: a5 :: a6 :: a7 :: a8 :: .int v :: L) S G I J r G' I' J') : jv_V d M pc (a0 :: a1 :: a2 :: a3 :: a4 :: a5 :: a6 :: a7 :: a8 :: .int x :: L) S G I J r G' I' J' := ⟨h.1, fun p l e R s m args below meth c H locs cells slots ls ad base D cA adS mc ms C T1 T2 T3 => by
  have hi : 9 < M.2.2.1 := by rw [← T2.1]; simp
  obtain ⟨k, hk⟩ := List.getElem?_of_mem (jv_lv_in (ad := ad) (L := (a0 :: a1 :: a2 :: a3 :: a4 :: a5 :: a6 :: a7 :: a8 :: .int x :: L)) (i := 9) (v := .int x) rfl (by intro q; cases q))
  exact lv_iinc C.1 C.2.1 hd T2.has hk hv hi rfl (fun ls' hl => h.2 p l e R s m args below meth c H locs cells slots ls' ad base D cA adS mc ms C T1 (T2.put1 (i := 9) (v := .int v) (jv_c1_s (i := 8) rfl hc) (by intro q; cases q) hi hl) T3)⟩
