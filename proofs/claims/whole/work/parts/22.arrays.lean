/-! ===== arrays ===== -/
theorem jv_W.mono {p : Program} {l : Launch} {e : Env} {R : Room} {s : State} {m : MethodId} {args : Array Value} {below : List Frame} {meth : Method} {c : Code} {H : Heap} {locs : List Loc} {cells slots : Nat} {Q Q2 : State → Prop} {g : JFrame} (h : ∀ t, Q t → Q2 t) (k : W p l e R s m args below meth c H locs cells slots Q g) : W p l e R s m args below meth c H locs cells slots Q2 g := fun T hT X => by
  obtain ⟨t, a, b⟩ := k T hT X
  exact ⟨t, a, h t b⟩
theorem jv_MQ.mono {below : List Frame} {Q Q2 : Array Value → State → Outcome → State → Prop} {a : Array Value} {s : State} {mc ms : Nat} {free : Addr → Prop} (h : ∀ a s o t, Q a s o t → Q2 a s o t) (t : State) (k : MQ below Q a s mc ms free t) : MQ below Q2 a s mc ms free t := by
  obtain ⟨o, h1, h2, h3, h4⟩ := k
  exact ⟨o, h1, h2, h _ _ _ _ h3, h4⟩
/-- references that the names of cells yet to be made can't meet -/
def jv_ow (n : Nat) (vs : List Value) : Prop := ∀ v ∈ vs, ∀ r : Nat, v = .ref r → r ≤ n ∨ 1000000 ≤ r
theorem jv_ow_nil {n : Nat} : jv_ow n [] := fun _ h => by cases h
theorem jv_ow_ref {n r : Nat} {vs : List Value} (h : r ≤ n ∨ 1000000 ≤ r) (hs : jv_ow n vs) : jv_ow n (.ref r :: vs) := fun v hv q e => by
  rcases List.mem_cons.mp hv with h1 | h1
  · rw [h1] at e; cases e; exact h
  · exact hs v h1 q e
theorem jv_ow_int {n : Nat} {x : Int32} {vs : List Value} (hs : jv_ow n vs) : jv_ow n (.int x :: vs) := fun v hv q e => by
  rcases List.mem_cons.mp hv with h1 | h1
  · rw [h1] at e; cases e
  · exact hs v h1 q e
theorem jv_ow_long {n : Nat} {x : Int64} {vs : List Value} (hs : jv_ow n vs) : jv_ow n (.long x :: vs) := fun v hv q e => by
  rcases List.mem_cons.mp hv with h1 | h1
  · rw [h1] at e; cases e
  · exact hs v h1 q e
theorem jv_ow_null {n : Nat} {vs : List Value} (hs : jv_ow n vs) : jv_ow n (.null :: vs) := fun v hv q e => by
  rcases List.mem_cons.mp hv with h1 | h1
  · rw [h1] at e; cases e
  · exact hs v h1 q e
theorem jv_v_ad {ad ad2 : Nat → Nat} {v : Value} (h : ∀ r : Nat, v = .ref r → ad2 r = ad r) : jv_v ad2 v = jv_v ad v := by
  cases v with
  | ref r => exact congrArg va_rf (jv_o_eq (h r rfl))
  | _ => rfl
theorem jv_L.ad {ad ad2 : Nat → Nat} {ls : Array Slot} {nL : Nat} {L : List Value} (h : jv_L ad ls nL L) (hw : ∀ v ∈ L, ∀ r : Nat, v = .ref r → ad2 r = ad r) : jv_L ad2 ls nL L := ⟨h.1, h.2.1, h.2.2.1, fun i v hi hv => by rw [jv_v_ad (hw v (List.mem_of_getElem? hi))]; exact h.2.2.2 i v hi hv⟩
theorem jv_S_ad {ad ad2 : Nat → Nat} {S : List Value} (hw : ∀ v ∈ S, ∀ r : Nat, v = .ref r → ad2 r = ad r) : S.map (jv_v ad2) = S.map (jv_v ad) := List.map_congr_left fun v hv => jv_v_ad (hw v hv)
def jv_ad (ad : Nat → Nat) (n q : Nat) : Nat → Nat := fun k => if k = n then q else ad k
theorem jv_ad_ow {ad : Nat → Nat} {n q : Nat} {vs : List Value} (h : jv_ow n vs) (hn : n + 1 < 1000000) : ∀ v ∈ vs, ∀ r : Nat, v = .ref r → jv_ad ad (n + 1) q r = ad r := fun v hv r e => by
  have h0 := h v hv r e
  show (if r = n + 1 then q else ad r) = ad r
  exact if_neg (by omega)
section JVA
variable {d pc : Nat} {M : jv_M} {L S : List Value} {G G' : jv_Gr} {I I' : jv_I} {J J' : jv_J} {r : Option Value}
theorem jv_iald {a n : Nat} {i v : Int32} (hd : decode M.2.1 pc = .ok (.iaload, 1)) (ha : jv_k G a = (0, n)) (hin : vp_in i n) (hv : I a i.toNatClampNeg = v) (h : jv_V d M (pc + 1) L (.int v :: S) G I J r G' I' J') : jv_V d M pc L (.int i :: .ref a :: S) G I J r G' I' J' := by
  subst hv
  refine ⟨h.1, fun p l e R s m args below meth c H locs cells slots ls ad base D cA adS mc ms C T1 T2 T3 => ?_⟩
  have hk := h.2 p l e R s m args below meth c H locs cells slots ls ad base D cA adS mc ms C T1 T2 T3
  have hn0 := jv_k_in ha (by decide)
  rw [List.map_cons, jv_mr hn0.1]
  have he := jv_W_at (cA := cA) (ad := ad) (I := I) (J := J) hn0
  rw [jv_E_0 ha] at he
  exact va_iald C.1 C.2.1 C.2.2.2.2.2.2.2.2.2.1 T1.2.2.1 (a - 1) 0 he rfl hin hd hk
theorem jv_lald {a n : Nat} {i : Int32} {v : Int64} (hd : decode M.2.1 pc = .ok (.laload, 1)) (ha : jv_k G a = (1, n)) (hin : vp_in i n) (hv : J a i.toNatClampNeg = v) (h : jv_V d M (pc + 1) L (.long v :: S) G I J r G' I' J') : jv_V d M pc L (.int i :: .ref a :: S) G I J r G' I' J' := by
  subst hv
  refine ⟨h.1, fun p l e R s m args below meth c H locs cells slots ls ad base D cA adS mc ms C T1 T2 T3 => ?_⟩
  have hk := h.2 p l e R s m args below meth c H locs cells slots ls ad base D cA adS mc ms C T1 T2 T3
  have hn0 := jv_k_in ha (by decide)
  rw [List.map_cons, jv_mr hn0.1]
  have he := jv_W_at (cA := cA) (ad := ad) (I := I) (J := J) hn0
  rw [jv_E_1 ha] at he
  exact va_lald C.1 C.2.1 C.2.2.2.2.2.2.2.2.2.1 T1.2.2.1 (a - 1) 1 he rfl hin hd hk
theorem jv_aald2 {a n b : Nat} {i : Int32} (hd : decode M.2.1 pc = .ok (.aaload, 1)) (ha : jv_k G a = (2, n)) (hin : vp_in i n) (hv : jv_r G a i.toNatClampNeg = b) (h : jv_V d M (pc + 1) L (.ref b :: S) G I J r G' I' J') : jv_V d M pc L (.int i :: .ref a :: S) G I J r G' I' J' := by
  subst hv
  refine ⟨h.1, fun p l e R s m args below meth c H locs cells slots ls ad base D cA adS mc ms C T1 T2 T3 => ?_⟩
  have hk := h.2 p l e R s m args below meth c H locs cells slots ls ad base D cA adS mc ms C T1 T2 T3
  have hn0 := jv_k_in ha (by decide)
  rw [List.map_cons, jv_mr hn0.1]
  have he := jv_W_at (cA := cA) (ad := ad) (I := I) (J := J) hn0
  rw [jv_E_2 ha] at he
  exact va_aldq C.1 C.2.1 C.2.2.2.2.2.2.2.2.2.1 T1.2.2.1 (a - 1) 2 he rfl hin hd hk
theorem jv_aald3 {a n b : Nat} {i : Int32} (hd : decode M.2.1 pc = .ok (.aaload, 1)) (ha : jv_k G a = (3, n)) (hin : vp_in i n) (hv : jv_r G a i.toNatClampNeg = b) (h : jv_V d M (pc + 1) L (.ref b :: S) G I J r G' I' J') : jv_V d M pc L (.int i :: .ref a :: S) G I J r G' I' J' := by
  subst hv
  refine ⟨h.1, fun p l e R s m args below meth c H locs cells slots ls ad base D cA adS mc ms C T1 T2 T3 => ?_⟩
  have hk := h.2 p l e R s m args below meth c H locs cells slots ls ad base D cA adS mc ms C T1 T2 T3
  have hn0 := jv_k_in ha (by decide)
  rw [List.map_cons, jv_mr hn0.1]
  have he := jv_W_at (cA := cA) (ad := ad) (I := I) (J := J) hn0
  rw [jv_E_3 ha] at he
  have hlt : i.toNatClampNeg < n := Nat.not_le.mp fun q => hin (Or.inr q)
  have hK := C.2.2.2.2.2.2.2.2.2.1
  exact W.aald (v := va_rf (jv_o ad (jv_r G a i.toNatClampNeg))) (ty := .array .long) C.1 C.2.1 (T1.2.2.1 (a - 1) _ he) ((hK.2 3 (cA 3, .array .long) rfl).1 n (fun j => va_rf (jv_o ad (jv_r G a j)))) rfl (fun q => by cases q) (by show ¬ (i < 0 ∨ (arrV _ _ _).slots.size ≤ _); rw [arrV_size]; exact hin) (by show (arrV _ _ _).slots[_]? = _; rw [arrV_read _ _ hlt]) rfl rfl hd hk
theorem jv_iast {a n : Nat} {i x : Int32} (hd : decode M.2.1 pc = .ok (.iastore, 1)) (ha : jv_k G a = (0, n)) (hin : vp_in i n) {k : Nat} (hk0 : i.toNatClampNeg = k) (h : jv_V d M (pc + 1) L S G (jv_up I a k x) J r G' I' J') : jv_V d M pc L (.int x :: .int i :: .ref a :: S) G I J r G' I' J' := by
  subst hk0
  refine ⟨h.1, fun p l e R s m args below meth c H locs cells slots ls ad base D cA adS mc ms C T1 T2 T3 => ?_⟩
  have hk := fun H locs T => h.2 p l e R s m args below meth c H locs cells slots ls ad base D cA adS mc ms C T T2 T3
  have hn0 := jv_k_in ha (by decide)
  rw [List.map_cons, List.map_cons, jv_mr hn0.1]
  have he := jv_W_at (cA := cA) (ad := ad) (I := I) (J := J) hn0
  rw [jv_E_0 ha] at he
  exact va_iast C.1 C.2.1 C.2.2.2.2.2.2.2.2.2.1 T1.2.2.1 T1.2.2.2.1 T1.2.2.2.2 (a - 1) 0 he rfl hin hd (fun H1 locs1 h1 h2 h3 => hk H1 locs1 (jv_hpI T1 hn0 (by rw [jv_E_0 ha, jv_up_self]; rfl) (fun b hb => jv_up_ne _ _ _ hb) (fun _ _ => rfl) h1 h2 h3))
theorem jv_last {a n : Nat} {i : Int32} {x : Int64} (hd : decode M.2.1 pc = .ok (.lastore, 1)) (ha : jv_k G a = (1, n)) (hin : vp_in i n) {k : Nat} (hk0 : i.toNatClampNeg = k) (h : jv_V d M (pc + 1) L S G I (jv_up J a k x) r G' I' J') : jv_V d M pc L (.long x :: .int i :: .ref a :: S) G I J r G' I' J' := by
  subst hk0
  refine ⟨h.1, fun p l e R s m args below meth c H locs cells slots ls ad base D cA adS mc ms C T1 T2 T3 => ?_⟩
  have hk := fun H locs T => h.2 p l e R s m args below meth c H locs cells slots ls ad base D cA adS mc ms C T T2 T3
  have hn0 := jv_k_in ha (by decide)
  rw [List.map_cons, List.map_cons, jv_mr hn0.1]
  have he := jv_W_at (cA := cA) (ad := ad) (I := I) (J := J) hn0
  rw [jv_E_1 ha] at he
  exact va_last C.1 C.2.1 C.2.2.2.2.2.2.2.2.2.1 T1.2.2.1 T1.2.2.2.1 T1.2.2.2.2 (a - 1) 1 he rfl hin hd (fun H1 locs1 h1 h2 h3 => hk H1 locs1 (jv_hpI T1 hn0 (by rw [jv_E_1 ha, jv_up_self]; rfl) (fun _ _ => rfl) (fun b hb => jv_up_ne _ _ _ hb) h1 h2 h3))
theorem jv_aast {a n b nb : Nat} {i : Int32} (hd : decode M.2.1 pc = .ok (.aastore, 1)) (ha : jv_k G a = (2, n)) (hb : jv_k G b = (11, nb)) (hin : vp_in i n) {k : Nat} (hk0 : i.toNatClampNeg = k) (h : jv_V d M (pc + 1) L S (jv_sr G a k b) I J r G' I' J') : jv_V d M pc L (.ref b :: .int i :: .ref a :: S) G I J r G' I' J' := by
  subst hk0
  refine ⟨h.1, fun p l e R s m args below meth c H locs cells slots ls ad base D cA adS mc ms C T1 T2 T3 => ?_⟩
  have hk := fun H locs T => h.2 p l e R s m args below meth c H locs cells slots ls ad base D cA adS mc ms C T T2 T3
  have hn0 := jv_k_in ha (by decide)
  have hn1 := jv_k_in hb (by decide)
  rw [jv_mr hn1.1, List.map_cons, jv_mr hn0.1]
  have he := jv_W_at (cA := cA) (ad := ad) (I := I) (J := J) hn0
  rw [jv_E_2 ha] at he
  have he1 := jv_W_at (cA := cA) (ad := ad) (I := I) (J := J) hn1
  rw [jv_E_obj (ci := 1) hb] at he1
  refine va_astq C.1 C.2.1 C.2.2.2.2.2.2.2.2.2.1 T1.2.2.1 T1.2.2.2.1 T1.2.2.2.2 (a - 1) 2 (b - 1) 1 (r := (RX1, TX1, 3)) he rfl he1 rfl hin hd (fun H1 locs1 h1 h2 h3 => hk H1 locs1 (jv_hpR T1 hn0 hn1.2 ?_ h1 h2 h3))
  rw [jv_E_2 (G := jv_sr G a i.toNatClampNeg b) ha]
  congr 7
  funext j
  show jv_o ad (jv_up G.2.2.2 a i.toNatClampNeg b a j) = va_up _ _ _ j
  unfold va_up jv_up
  by_cases hj : j = i.toNatClampNeg
  · rw [if_pos rfl, if_pos hj, if_pos hj]
    unfold jv_o
    rw [if_neg hn1.1]
  · rw [if_pos rfl, if_neg hj, if_neg hj]; rfl
theorem jv_alen {a n : Nat} (hd : decode M.2.1 pc = .ok (.arraylength, 1)) (ha : jv_k G a = (0, n)) (h : jv_V d M (pc + 1) L (.int (nI n) :: S) G I J r G' I' J') : jv_V d M pc L (.ref a :: S) G I J r G' I' J' := by
  refine ⟨h.1, fun p l e R s m args below meth c H locs cells slots ls ad base D cA adS mc ms C T1 T2 T3 => ?_⟩
  have hk := h.2 p l e R s m args below meth c H locs cells slots ls ad base D cA adS mc ms C T1 T2 T3
  have hn0 := jv_k_in ha (by decide)
  rw [jv_mr hn0.1]
  have he := jv_W_at (cA := cA) (ad := ad) (I := I) (J := J) hn0
  rw [jv_E_0 ha] at he
  exact va_alen C.1 C.2.1 C.2.2.2.2.2.2.2.2.2.1 T1.2.2.1 (a - 1) 0 he rfl rfl hd hk
theorem jv_ifnonnull {b : Nat} {off : Int} {tgt : Nat} (hd : decode M.2.1 pc = .ok (.ifnonnull off, 3)) (ht : (pc : Int) + off = (tgt : Int)) (kt : b ≠ 0 → jv_V d M tgt L S G I J r G' I' J') (kf : b = 0 → jv_V d M (pc + 3) L S G I J r G' I' J') : jv_V d M pc L (.ref b :: S) G I J r G' I' J' := by
  by_cases hb : b = 0
  · have h := kf hb
    refine ⟨h.1, fun p l e R s m args below meth c H locs cells slots ls ad base D cA adS mc ms C T1 T2 T3 => ?_⟩
    subst hb
    exact lv_ifnonnullN C.1 C.2.1 hd (h.2 p l e R s m args below meth c H locs cells slots ls ad base D cA adS mc ms C T1 T2 T3)
  · have h := kt hb
    refine ⟨h.1, fun p l e R s m args below meth c H locs cells slots ls ad base D cA adS mc ms C T1 T2 T3 => ?_⟩
    rw [jv_mr hb]
    exact lv_ifnonnull C.1 C.2.1 hd ht (h.2 p l e R s m args below meth c H locs cells slots ls ad base D cA adS mc ms C T1 T2 T3)
/-- System.arraycopy over ints -/
theorem jv_copyI {idx a0 a n0 n1 : Nat} {sp dp n : Int32} {sp' dp' n' : Nat} (hd : decode M.2.1 pc = .ok (.invokestatic idx, 3)) (hl : Cond.methodLink M.1.cls idx arraycopyName ∈ lw_tg) (hnat : Cond.native arraycopyName ∈ lw_tg) (hstat : Cond.static arraycopyName ∈ lw_tg) (hini : Cond.initialized "java/lang/System" ∈ lw_tg) (ha0 : jv_k G a0 = (0, n0)) (ha : jv_k G a = (0, n1)) (e1 : sp = nI sp') (e2 : dp = nI dp') (e3 : n = nI n') (h4 : sp' + n' ≤ n0) (h5 : dp' + n' ≤ n1) (hb0 : n0 < 2 ^ 31) (hb1 : n1 < 2 ^ 31) (hS8 : (S.map fun v => v.category).sum ≤ 8) (hd1 : 1 ≤ d) (h : jv_V d M (pc + 3) L S G (jv_pa I a (va_cpy (I a0) (I a) sp' dp' n')) J r G' I' J') : jv_V d M pc L (.int n :: .int dp :: .ref a :: .int sp :: .ref a0 :: S) G I J r G' I' J' := by
  subst e1; subst e2; subst e3
  refine ⟨h.1, fun p l e R s m args below meth c H locs cells slots ls ad base D cA adS mc ms C T1 T2 T3 => ?_⟩
  have hk := fun H locs T => h.2 p l e R s m args below meth c H locs cells slots ls ad base D cA adS mc ms C T T2 T3
  have g0 := jv_k_in ha0 (by decide)
  have g1 := jv_k_in ha (by decide)
  rw [List.map_cons, List.map_cons, jv_mr g1.1, List.map_cons, jv_mr g0.1]
  have he0 := jv_W_at (cA := cA) (ad := ad) (I := I) (J := J) g0
  rw [jv_E_0 ha0] at he0
  have he1 := jv_W_at (cA := cA) (ad := ad) (I := I) (J := J) g1
  rw [jv_E_0 ha] at he1
  have hts := C.2.2.2.2.2.2.2.1
  have c1 : (nI sp').toNatClampNeg = sp' := nI_clamp (by omega)
  have c2 : (nI dp').toNatClampNeg = dp' := nI_clamp (by omega)
  have c3 : (nI n').toNatClampNeg = n' := nI_clamp (by omega)
  refine va_copyi C.1 C.2.1 (by rw [C.2.2.1]; exact T2.2.1.symm) (own := M.1.cls) C.2.2.2.2.2.2.1 (hts _ hl) (hts _ hnat) (hts _ hstat) (hts _ hini) C.2.2.2.2.2.2.2.2.2.1 T1.2.2.1 T1.2.2.2.1 T1.2.2.2.2 (a0 - 1) (a - 1) 0 0 he0 he1 rfl rfl rfl (nI_pos (by omega)) (nI_pos (by omega)) (nI_pos (by omega)) (by rw [c1, c3]; exact h4) (by rw [c2, c3]; exact h5) (fun _ _ => rfl) (by have := T3.1; omega) ?_ hd (fun H1 locs1 h1 h2 h3 => hk H1 locs1 (jv_hpI T1 g1 ?_ (fun b hb => by simp [jv_pa, hb]) (fun _ _ => rfl) h1 h2 h3))
  · rw [jv_cats]
    have h40 := T3.2.1
    have : nativeFrameWords "java/lang/System" "arraycopy" 5 ≤ 12 := by decide
    omega
  · rw [jv_E_0 ha, c1, c2, c3]
    simp [jv_pa]
theorem jv_copyJ {idx a0 a n0 n1 : Nat} {sp dp n : Int32} {sp' dp' n' : Nat} (hd : decode M.2.1 pc = .ok (.invokestatic idx, 3)) (hl : Cond.methodLink M.1.cls idx arraycopyName ∈ lw_tg) (hnat : Cond.native arraycopyName ∈ lw_tg) (hstat : Cond.static arraycopyName ∈ lw_tg) (hini : Cond.initialized "java/lang/System" ∈ lw_tg) (ha0 : jv_k G a0 = (1, n0)) (ha : jv_k G a = (1, n1)) (e1 : sp = nI sp') (e2 : dp = nI dp') (e3 : n = nI n') (h4 : sp' + n' ≤ n0) (h5 : dp' + n' ≤ n1) (hb0 : n0 < 2 ^ 31) (hb1 : n1 < 2 ^ 31) (hS8 : (S.map fun v => v.category).sum ≤ 8) (hd1 : 1 ≤ d) (h : jv_V d M (pc + 3) L S G I (jv_pa J a (va_cpy (J a0) (J a) sp' dp' n')) r G' I' J') : jv_V d M pc L (.int n :: .int dp :: .ref a :: .int sp :: .ref a0 :: S) G I J r G' I' J' := by
  subst e1; subst e2; subst e3
  refine ⟨h.1, fun p l e R s m args below meth c H locs cells slots ls ad base D cA adS mc ms C T1 T2 T3 => ?_⟩
  have hk := fun H locs T => h.2 p l e R s m args below meth c H locs cells slots ls ad base D cA adS mc ms C T T2 T3
  have g0 := jv_k_in ha0 (by decide)
  have g1 := jv_k_in ha (by decide)
  rw [List.map_cons, List.map_cons, jv_mr g1.1, List.map_cons, jv_mr g0.1]
  have he0 := jv_W_at (cA := cA) (ad := ad) (I := I) (J := J) g0
  rw [jv_E_1 ha0] at he0
  have he1 := jv_W_at (cA := cA) (ad := ad) (I := I) (J := J) g1
  rw [jv_E_1 ha] at he1
  have hts := C.2.2.2.2.2.2.2.1
  have c1 : (nI sp').toNatClampNeg = sp' := nI_clamp (by omega)
  have c2 : (nI dp').toNatClampNeg = dp' := nI_clamp (by omega)
  have c3 : (nI n').toNatClampNeg = n' := nI_clamp (by omega)
  refine va_copyl C.1 C.2.1 (by rw [C.2.2.1]; exact T2.2.1.symm) (own := M.1.cls) C.2.2.2.2.2.2.1 (hts _ hl) (hts _ hnat) (hts _ hstat) (hts _ hini) C.2.2.2.2.2.2.2.2.2.1 T1.2.2.1 T1.2.2.2.1 T1.2.2.2.2 (a0 - 1) (a - 1) 1 1 he0 he1 rfl rfl rfl (nI_pos (by omega)) (nI_pos (by omega)) (nI_pos (by omega)) (by rw [c1, c3]; exact h4) (by rw [c2, c3]; exact h5) (fun _ _ => rfl) (by have := T3.1; omega) ?_ hd (fun H1 locs1 h1 h2 h3 => hk H1 locs1 (jv_hpI T1 g1 ?_ (fun _ _ => rfl) (fun b hb => by simp [jv_pa, hb]) h1 h2 h3))
  · rw [jv_cats]
    have h40 := T3.2.1
    have : nativeFrameWords "java/lang/System" "arraycopy" 5 ≤ 12 := by decide
    omega
  · rw [jv_E_1 ha, c1, c2, c3]
    simp [jv_pa]
theorem jv_mmax {idx : Nat} {x y : Int32} (hd : decode M.2.1 pc = .ok (.invokestatic idx, 3)) (hl : Cond.methodLink M.1.cls idx Lib.Math.max.name ∈ lw_tg) (hstat : Cond.static Lib.Math.max.name ∈ lw_tg) (hini : Cond.initialized "java/lang/Math" ∈ lw_tg) (hco : Cond.code Lib.Math.max.name Lib.Math.max.code 2 (some .int) ∈ lw_tg) (hS8 : (S.map fun v => v.category).sum ≤ 8) (hd1 : 1 ≤ d) (h : jv_V d M (pc + 3) L (.int (if x < y then y else x) :: S) G I J r G' I' J') : jv_V d M pc L (.int y :: .int x :: S) G I J r G' I' J' := by
  refine ⟨h.1, fun p l e R s m args below meth c H locs cells slots ls ad base D cA adS mc ms C T1 T2 T3 => ?_⟩
  have hk := h.2 p l e R s m args below meth c H locs cells slots ls ad base D cA adS mc ms C T1 T2 T3
  have hts := C.2.2.2.2.2.2.2.1
  obtain ⟨r1, r2, r3, r4, r5, r6⟩ := T3
  have g := h.1
  exact va_mmax C.1 C.2.1 (by rw [C.2.2.1]; exact T2.2.1.symm) (own := M.1.cls) C.2.2.2.2.2.2.1 (hts _ hl) (hts _ hstat) (hts _ hini) (hts _ hco) (by omega) (by rw [jv_cats]; omega) (by omega) (by omega) hd hk
theorem jv_mmin {idx : Nat} {x y : Int32} (hd : decode M.2.1 pc = .ok (.invokestatic idx, 3)) (hl : Cond.methodLink M.1.cls idx Lib.Math.min.name ∈ lw_tg) (hstat : Cond.static Lib.Math.min.name ∈ lw_tg) (hini : Cond.initialized "java/lang/Math" ∈ lw_tg) (hco : Cond.code Lib.Math.min.name Lib.Math.min.code 2 (some .int) ∈ lw_tg) (hS8 : (S.map fun v => v.category).sum ≤ 8) (hd1 : 1 ≤ d) (h : jv_V d M (pc + 3) L (.int (if y < x then y else x) :: S) G I J r G' I' J') : jv_V d M pc L (.int y :: .int x :: S) G I J r G' I' J' := by
  refine ⟨h.1, fun p l e R s m args below meth c H locs cells slots ls ad base D cA adS mc ms C T1 T2 T3 => ?_⟩
  have hk := h.2 p l e R s m args below meth c H locs cells slots ls ad base D cA adS mc ms C T1 T2 T3
  have hts := C.2.2.2.2.2.2.2.1
  obtain ⟨r1, r2, r3, r4, r5, r6⟩ := T3
  have g := h.1
  exact va_mmin C.1 C.2.1 (by rw [C.2.2.1]; exact T2.2.1.symm) (own := M.1.cls) C.2.2.2.2.2.2.1 (hts _ hl) (hts _ hstat) (hts _ hini) (hts _ hco) (by omega) (by rw [jv_cats]; omega) (by omega) (by omega) hd hk
theorem jv_mabs {idx : Nat} {x : Int32} (hd : decode M.2.1 pc = .ok (.invokestatic idx, 3)) (hl : Cond.methodLink M.1.cls idx Lib.Math.abs.name ∈ lw_tg) (hstat : Cond.static Lib.Math.abs.name ∈ lw_tg) (hini : Cond.initialized "java/lang/Math" ∈ lw_tg) (hco : Cond.code Lib.Math.abs.name Lib.Math.abs.code 1 (some .int) ∈ lw_tg) (hS8 : (S.map fun v => v.category).sum ≤ 8) (hd1 : 1 ≤ d) (h : jv_V d M (pc + 3) L (.int (if 0 ≤ x then x else 0 - x) :: S) G I J r G' I' J') : jv_V d M pc L (.int x :: S) G I J r G' I' J' := by
  refine ⟨h.1, fun p l e R s m args below meth c H locs cells slots ls ad base D cA adS mc ms C T1 T2 T3 => ?_⟩
  have hk := h.2 p l e R s m args below meth c H locs cells slots ls ad base D cA adS mc ms C T1 T2 T3
  have hts := C.2.2.2.2.2.2.2.1
  obtain ⟨r1, r2, r3, r4, r5, r6⟩ := T3
  have g := h.1
  exact va_mabs C.1 C.2.1 (by rw [C.2.2.1]; exact T2.2.1.symm) (own := M.1.cls) C.2.2.2.2.2.2.1 (hts _ hl) (hts _ hstat) (hts _ hini) (hts _ hco) (by omega) (by rw [jv_cats]; omega) (by omega) (by omega) hd hk
end JVA
