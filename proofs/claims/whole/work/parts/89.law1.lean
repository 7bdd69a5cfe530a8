/-! ===== the law's own body: the machine's rows with the script beside ===== -/
def jw_X (Lx : Nat) (xs : Nat → Int32) (s : State) (adS : Nat → Nat) (base : Nat) : Prop := va_X (adS 400) Lx xs s s.heap ∧ adS 400 < base
def jw_V (Lx : Nat) (xs : Nat → Int32) (d : Nat) (M : jv_M) (pc : Nat) (L S : List Value) (G : jv_Gr) (I : jv_I) (J : jv_J) (r : Option Value) (G' : jv_Gr) (I' : jv_I) (J' : jv_J) : Prop :=
  (jv_n G ≤ jv_n G' ∧ jv_s G ≤ jv_s G') ∧
  ∀ (p : Program) (l : Launch) (e : Env) (R : Room) (s : State) (m : MethodId) (args : Array Value) (below : List Frame) (meth : Method) (c : Code) (H : Heap) (locs : List Loc) (cells slots : Nat) (ls : Array Slot) (ad : Nat → Nat) (base : Nat) (D : va_G) (cA : Nat → ClassId) (adS : Nat → Nat) (mc ms : Nat),
    jw_X Lx xs s adS base → jv_Cx p s m args meth c M base D cA adS → jv_Hp s H locs ad base D cA adS G I J → jv_L ad ls M.2.2.1 L → jv_Rm R cells slots mc ms d G G' →
    W p l e R s m args below meth c H locs cells slots (MQ below (jv_Q base D cA ad (jv_n G) r G' I' J') args s mc ms (fun q => base ≤ q)) (F0 m pc ls (S.map (jv_v ad)))
theorem jw_iconst {Lx : Nat} {xs : Nat → Int32} {d pc : Nat} {M : jv_M} {L S : List Value} {G G' : jv_Gr} {I I' : jv_I} {J J' : jv_J} {r : Option Value} {n : Int} {v : Int32} (hd : decode M.2.1 pc = .ok (.iconst n, 1)) (hv : Int32.ofInt n = v) (h : jw_V Lx xs d M (pc + 1) L (.int v :: S) G I J r G' I' J') : jw_V Lx xs d M pc L S G I J r G' I' J' := ⟨h.1, fun p l e R s m args below meth c H locs cells slots ls ad base D cA adS mc ms TX C T1 T2 T3 => lv_iconst C.1 C.2.1 hd hv (h.2 p l e R s m args below meth c H locs cells slots ls ad base D cA adS mc ms TX C T1 T2 T3)⟩
theorem jw_bipush {Lx : Nat} {xs : Nat → Int32} {d pc : Nat} {M : jv_M} {L S : List Value} {G G' : jv_Gr} {I I' : jv_I} {J J' : jv_J} {r : Option Value} {n : Int} {v : Int32} (hd : decode M.2.1 pc = .ok (.bipush n, 2)) (hv : (Int8.ofInt n).toInt32 = v) (h : jw_V Lx xs d M (pc + 2) L (.int v :: S) G I J r G' I' J') : jw_V Lx xs d M pc L S G I J r G' I' J' := ⟨h.1, fun p l e R s m args below meth c H locs cells slots ls ad base D cA adS mc ms TX C T1 T2 T3 => lv_bipush C.1 C.2.1 hd hv (h.2 p l e R s m args below meth c H locs cells slots ls ad base D cA adS mc ms TX C T1 T2 T3)⟩
theorem jw_aload0 {Lx : Nat} {xs : Nat → Int32} {d pc : Nat} {M : jv_M} {L S : List Value} {G G' : jv_Gr} {I I' : jv_I} {J J' : jv_J} {r : Option Value}  {x : Nat} (hd : decode M.2.1 pc = .ok (.aload_n 0, 1)) (h : jw_V Lx xs d M (pc + 1) (.ref x :: L) (.ref x :: S) G I J r G' I' J') : jw_V Lx xs d M pc (.ref x :: L) S G I J r G' I' J' := ⟨h.1, fun p l e R s m args below meth c H locs cells slots ls ad base D cA adS mc ms TX C T1 T2 T3 => by
  have hl := T2.at (i := 0) (v := .ref x) rfl (by intro q; cases q)
  have hk := h.2 p l e R s m args below meth c H locs cells slots ls ad base D cA adS mc ms TX C T1 T2 T3
  by_cases hx : x = 0
  · subst hx
    exact lv_aload_nN C.1 C.2.1 hd rfl hl hk
  · rw [jv_v_ref ad hx] at hl
    rw [List.map_cons, jv_v_ref ad hx] at hk
    exact lv_aload_n C.1 C.2.1 hd rfl hl hk⟩
theorem jw_aload1 {Lx : Nat} {xs : Nat → Int32} {d pc : Nat} {M : jv_M} {L S : List Value} {G G' : jv_Gr} {I I' : jv_I} {J J' : jv_J} {r : Option Value} {a0 : Value} {x : Nat} (hd : decode M.2.1 pc = .ok (.aload_n 1, 1)) (h : jw_V Lx xs d M (pc + 1) (a0 :: .ref x :: L) (.ref x :: S) G I J r G' I' J') : jw_V Lx xs d M pc (a0 :: .ref x :: L) S G I J r G' I' J' := ⟨h.1, fun p l e R s m args below meth c H locs cells slots ls ad base D cA adS mc ms TX C T1 T2 T3 => by
  have hl := T2.at (i := 1) (v := .ref x) rfl (by intro q; cases q)
  have hk := h.2 p l e R s m args below meth c H locs cells slots ls ad base D cA adS mc ms TX C T1 T2 T3
  by_cases hx : x = 0
  · subst hx
    exact lv_aload_nN C.1 C.2.1 hd rfl hl hk
  · rw [jv_v_ref ad hx] at hl
    rw [List.map_cons, jv_v_ref ad hx] at hk
    exact lv_aload_n C.1 C.2.1 hd rfl hl hk⟩
theorem jw_aload2 {Lx : Nat} {xs : Nat → Int32} {d pc : Nat} {M : jv_M} {L S : List Value} {G G' : jv_Gr} {I I' : jv_I} {J J' : jv_J} {r : Option Value} {a0 a1 : Value} {x : Nat} (hd : decode M.2.1 pc = .ok (.aload_n 2, 1)) (h : jw_V Lx xs d M (pc + 1) (a0 :: a1 :: .ref x :: L) (.ref x :: S) G I J r G' I' J') : jw_V Lx xs d M pc (a0 :: a1 :: .ref x :: L) S G I J r G' I' J' := ⟨h.1, fun p l e R s m args below meth c H locs cells slots ls ad base D cA adS mc ms TX C T1 T2 T3 => by
  have hl := T2.at (i := 2) (v := .ref x) rfl (by intro q; cases q)
  have hk := h.2 p l e R s m args below meth c H locs cells slots ls ad base D cA adS mc ms TX C T1 T2 T3
  by_cases hx : x = 0
  · subst hx
    exact lv_aload_nN C.1 C.2.1 hd rfl hl hk
  · rw [jv_v_ref ad hx] at hl
    rw [List.map_cons, jv_v_ref ad hx] at hk
    exact lv_aload_n C.1 C.2.1 hd rfl hl hk⟩
theorem jw_astore1 {Lx : Nat} {xs : Nat → Int32} {d pc : Nat} {M : jv_M} {L S : List Value} {G G' : jv_Gr} {I I' : jv_I} {J J' : jv_J} {r : Option Value} {a0 z : Value} {x : Nat} (hd : decode M.2.1 pc = .ok (.astore_n 1, 1)) (hc : a0.category = 1) (h : jw_V Lx xs d M (pc + 1) (a0 :: .ref x :: L) S G I J r G' I' J') : jw_V Lx xs d M pc (a0 :: z :: L) (.ref x :: S) G I J r G' I' J' := ⟨h.1, fun p l e R s m args below meth c H locs cells slots ls ad base D cA adS mc ms TX C T1 T2 T3 => by
  have hi : 1 < M.2.2.1 := by rw [← T2.1]; simp
  exact (by
  have hk : ∀ ls' : Array Slot, lv_has ls' M.2.2.1 ((1, jv_v ad (.ref x)) :: (jv_lv ad (a0 :: z :: L)).filter (fun q => !(q.1 == 1) && !(q.1 + 1 == 1 && q.2.category == 2))) → W p l e R s m args below meth c H locs cells slots (MQ below (jv_Q base D cA ad (jv_n G) r G' I' J') args s mc ms (fun q => base ≤ q)) (F0 m (pc + 1) ls' (S.map (jv_v ad))) := fun ls' hl => h.2 p l e R s m args below meth c H locs cells slots ls' ad base D cA adS mc ms TX C T1 (T2.put1 (i := 1) (v := .ref x) (jv_c1_s (i := 0) rfl hc) (by intro q; cases q) hi hl) T3
  by_cases hx : x = 0
  · subst hx
    exact lv_astore_nN C.1 C.2.1 hd rfl T2.has hi rfl hk
  · rw [jv_v_ref ad hx] at hk
    rw [List.map_cons, jv_v_ref ad hx]
    exact lv_astore_n C.1 C.2.1 hd rfl T2.has hi rfl hk)⟩
theorem jw_astore2 {Lx : Nat} {xs : Nat → Int32} {d pc : Nat} {M : jv_M} {L S : List Value} {G G' : jv_Gr} {I I' : jv_I} {J J' : jv_J} {r : Option Value} {a0 a1 z : Value} {x : Nat} (hd : decode M.2.1 pc = .ok (.astore_n 2, 1)) (hc : a1.category = 1) (h : jw_V Lx xs d M (pc + 1) (a0 :: a1 :: .ref x :: L) S G I J r G' I' J') : jw_V Lx xs d M pc (a0 :: a1 :: z :: L) (.ref x :: S) G I J r G' I' J' := ⟨h.1, fun p l e R s m args below meth c H locs cells slots ls ad base D cA adS mc ms TX C T1 T2 T3 => by
  have hi : 2 < M.2.2.1 := by rw [← T2.1]; simp
  exact (by
  have hk : ∀ ls' : Array Slot, lv_has ls' M.2.2.1 ((2, jv_v ad (.ref x)) :: (jv_lv ad (a0 :: a1 :: z :: L)).filter (fun q => !(q.1 == 2) && !(q.1 + 1 == 2 && q.2.category == 2))) → W p l e R s m args below meth c H locs cells slots (MQ below (jv_Q base D cA ad (jv_n G) r G' I' J') args s mc ms (fun q => base ≤ q)) (F0 m (pc + 1) ls' (S.map (jv_v ad))) := fun ls' hl => h.2 p l e R s m args below meth c H locs cells slots ls' ad base D cA adS mc ms TX C T1 (T2.put1 (i := 2) (v := .ref x) (jv_c1_s (i := 1) rfl hc) (by intro q; cases q) hi hl) T3
  by_cases hx : x = 0
  · subst hx
    exact lv_astore_nN C.1 C.2.1 hd rfl T2.has hi rfl hk
  · rw [jv_v_ref ad hx] at hk
    rw [List.map_cons, jv_v_ref ad hx]
    exact lv_astore_n C.1 C.2.1 hd rfl T2.has hi rfl hk)⟩
theorem jw_iload3 {Lx : Nat} {xs : Nat → Int32} {d pc : Nat} {M : jv_M} {L S : List Value} {G G' : jv_Gr} {I I' : jv_I} {J J' : jv_J} {r : Option Value} {a0 a1 a2 : Value} {x : Int32} (hd : decode M.2.1 pc = .ok (.iload_n 3, 1)) (h : jw_V Lx xs d M (pc + 1) (a0 :: a1 :: a2 :: .int x :: L) (.int x :: S) G I J r G' I' J') : jw_V Lx xs d M pc (a0 :: a1 :: a2 :: .int x :: L) S G I J r G' I' J' := ⟨h.1, fun p l e R s m args below meth c H locs cells slots ls ad base D cA adS mc ms TX C T1 T2 T3 => lv_iload_n C.1 C.2.1 hd rfl (T2.at (i := 3) (v := .int x) rfl (by intro q; cases q)) (h.2 p l e R s m args below meth c H locs cells slots ls ad base D cA adS mc ms TX C T1 T2 T3)⟩
theorem jw_istore3 {Lx : Nat} {xs : Nat → Int32} {d pc : Nat} {M : jv_M} {L S : List Value} {G G' : jv_Gr} {I I' : jv_I} {J J' : jv_J} {r : Option Value} {a0 a1 a2 z : Value} {x : Int32} (hd : decode M.2.1 pc = .ok (.istore_n 3, 1)) (hc : a2.category = 1) (h : jw_V Lx xs d M (pc + 1) (a0 :: a1 :: a2 :: .int x :: L) S G I J r G' I' J') : jw_V Lx xs d M pc (a0 :: a1 :: a2 :: z :: L) (.int x :: S) G I J r G' I' J' := ⟨h.1, fun p l e R s m args below meth c H locs cells slots ls ad base D cA adS mc ms TX C T1 T2 T3 => by
  have hi : 3 < M.2.2.1 := by rw [← T2.1]; simp
  exact lv_istore_n C.1 C.2.1 hd rfl T2.has hi rfl (fun ls' hl => h.2 p l e R s m args below meth c H locs cells slots ls' ad base D cA adS mc ms TX C T1 (T2.put1 (i := 3) (v := .int x) (jv_c1_s (i := 2) rfl hc) (by intro q; cases q) hi hl) T3)⟩
theorem jw_iinc3 {Lx : Nat} {xs : Nat → Int32} {d pc : Nat} {M : jv_M} {L S : List Value} {G G' : jv_Gr} {I I' : jv_I} {J J' : jv_J} {r : Option Value} {a0 a1 a2 : Value} {x v : Int32} {n : Int} (hd : decode M.2.1 pc = .ok (.iinc 3 n, 3)) (hv : x + Int32.ofInt n = v) (hc : a2.category = 1) (h : jw_V Lx xs d M (pc + 3) (a0 :: a1 :: a2 :: .int v :: L) S G I J r G' I' J') : jw_V Lx xs d M pc (a0 :: a1 :: a2 :: .int x :: L) S G I J r G' I' J' := ⟨h.1, fun p l e R s m args below meth c H locs cells slots ls ad base D cA adS mc ms TX C T1 T2 T3 => by
  have hi : 3 < M.2.2.1 := by rw [← T2.1]; simp
  obtain ⟨k, hk⟩ := List.getElem?_of_mem (jv_lv_in (ad := ad) (L := (a0 :: a1 :: a2 :: .int x :: L)) (i := 3) (v := .int x) rfl (by intro q; cases q))
  exact lv_iinc C.1 C.2.1 hd T2.has hk hv hi rfl (fun ls' hl => h.2 p l e R s m args below meth c H locs cells slots ls' ad base D cA adS mc ms TX C T1 (T2.put1 (i := 3) (v := .int v) (jv_c1_s (i := 2) rfl hc) (by intro q; cases q) hi hl) T3)⟩
theorem jw_iadd {Lx : Nat} {xs : Nat → Int32} {d pc : Nat} {M : jv_M} {L S : List Value} {G G' : jv_Gr} {I I' : jv_I} {J J' : jv_J} {r : Option Value} {x y : Int32} (hd : decode M.2.1 pc = .ok (.iadd, 1))  (h : jw_V Lx xs d M (pc + 1) L (.int (x + y) :: S) G I J r G' I' J') : jw_V Lx xs d M pc L (.int y :: .int x :: S) G I J r G' I' J' := ⟨h.1, fun p l e R s m args below meth c H locs cells slots ls ad base D cA adS mc ms TX C T1 T2 T3 => lv_iadd C.1 C.2.1 hd  (h.2 p l e R s m args below meth c H locs cells slots ls ad base D cA adS mc ms TX C T1 T2 T3)⟩
theorem jw_isub {Lx : Nat} {xs : Nat → Int32} {d pc : Nat} {M : jv_M} {L S : List Value} {G G' : jv_Gr} {I I' : jv_I} {J J' : jv_J} {r : Option Value} {x y : Int32} (hd : decode M.2.1 pc = .ok (.isub, 1))  (h : jw_V Lx xs d M (pc + 1) L (.int (x - y) :: S) G I J r G' I' J') : jw_V Lx xs d M pc L (.int y :: .int x :: S) G I J r G' I' J' := ⟨h.1, fun p l e R s m args below meth c H locs cells slots ls ad base D cA adS mc ms TX C T1 T2 T3 => lv_isub C.1 C.2.1 hd  (h.2 p l e R s m args below meth c H locs cells slots ls ad base D cA adS mc ms TX C T1 T2 T3)⟩
theorem jw_iand {Lx : Nat} {xs : Nat → Int32} {d pc : Nat} {M : jv_M} {L S : List Value} {G G' : jv_Gr} {I I' : jv_I} {J J' : jv_J} {r : Option Value} {x y : Int32} (hd : decode M.2.1 pc = .ok (.iand, 1))  (h : jw_V Lx xs d M (pc + 1) L (.int (x &&& y) :: S) G I J r G' I' J') : jw_V Lx xs d M pc L (.int y :: .int x :: S) G I J r G' I' J' := ⟨h.1, fun p l e R s m args below meth c H locs cells slots ls ad base D cA adS mc ms TX C T1 T2 T3 => lv_iand C.1 C.2.1 hd  (h.2 p l e R s m args below meth c H locs cells slots ls ad base D cA adS mc ms TX C T1 T2 T3)⟩
theorem jw_i2l {Lx : Nat} {xs : Nat → Int32} {d pc : Nat} {M : jv_M} {L S : List Value} {G G' : jv_Gr} {I I' : jv_I} {J J' : jv_J} {r : Option Value} {x : Int32} {v : Int64} (hd : decode M.2.1 pc = .ok (.i2l, 1)) (hv : x.toInt64 = v) (h : jw_V Lx xs d M (pc + 1) L (.long v :: S) G I J r G' I' J') : jw_V Lx xs d M pc L (.int x :: S) G I J r G' I' J' := ⟨h.1, fun p l e R s m args below meth c H locs cells slots ls ad base D cA adS mc ms TX C T1 T2 T3 => lv_i2l C.1 C.2.1 hd hv (h.2 p l e R s m args below meth c H locs cells slots ls ad base D cA adS mc ms TX C T1 T2 T3)⟩
theorem jw_lshl {Lx : Nat} {xs : Nat → Int32} {d pc : Nat} {M : jv_M} {L S : List Value} {G G' : jv_Gr} {I I' : jv_I} {J J' : jv_J} {r : Option Value} {x v : Int64} {y : Int32} (hd : decode M.2.1 pc = .ok (.lshl, 1)) (hv : x <<< (y.toInt64 &&& 63) = v) (h : jw_V Lx xs d M (pc + 1) L (.long v :: S) G I J r G' I' J') : jw_V Lx xs d M pc L (.int y :: .long x :: S) G I J r G' I' J' := ⟨h.1, fun p l e R s m args below meth c H locs cells slots ls ad base D cA adS mc ms TX C T1 T2 T3 => lv_lshl C.1 C.2.1 hd hv (h.2 p l e R s m args below meth c H locs cells slots ls ad base D cA adS mc ms TX C T1 T2 T3)⟩
theorem jw_ldc2 {Lx : Nat} {xs : Nat → Int32} {d pc : Nat} {M : jv_M} {L S : List Value} {G G' : jv_Gr} {I I' : jv_I} {J J' : jv_J} {r : Option Value} {idx : Nat} {v : Int64} (hd : decode M.2.1 pc = .ok (.ldc2_w idx, 3)) (hw : Cond.constantLong M.1.cls idx v ∈ lw_tg) (h : jw_V Lx xs d M (pc + 3) L (.long v :: S) G I J r G' I' J') : jw_V Lx xs d M pc L S G I J r G' I' J' := ⟨h.1, fun p l e R s m args below meth c H locs cells slots ls ad base D cA adS mc ms TX C T1 T2 T3 => lv_ldc2 C.1 C.2.1 C.2.2.2.2.2.2.1 (C.2.2.2.2.2.2.2.1 _ hw) hd (h.2 p l e R s m args below meth c H locs cells slots ls ad base D cA adS mc ms TX C T1 T2 T3)⟩
theorem jw_land {Lx : Nat} {xs : Nat → Int32} {d pc : Nat} {M : jv_M} {L S : List Value} {G G' : jv_Gr} {I I' : jv_I} {J J' : jv_J} {r : Option Value} {x y : Int64} (hd : decode M.2.1 pc = .ok (.land, 1))  (h : jw_V Lx xs d M (pc + 1) L (.long (x &&& y) :: S) G I J r G' I' J') : jw_V Lx xs d M pc L (.long y :: .long x :: S) G I J r G' I' J' := ⟨h.1, fun p l e R s m args below meth c H locs cells slots ls ad base D cA adS mc ms TX C T1 T2 T3 => lv_land C.1 C.2.1 hd  (h.2 p l e R s m args below meth c H locs cells slots ls ad base D cA adS mc ms TX C T1 T2 T3)⟩
theorem jw_lor {Lx : Nat} {xs : Nat → Int32} {d pc : Nat} {M : jv_M} {L S : List Value} {G G' : jv_Gr} {I I' : jv_I} {J J' : jv_J} {r : Option Value} {x y : Int64} (hd : decode M.2.1 pc = .ok (.lor, 1))  (h : jw_V Lx xs d M (pc + 1) L (.long (x ||| y) :: S) G I J r G' I' J') : jw_V Lx xs d M pc L (.long y :: .long x :: S) G I J r G' I' J' := ⟨h.1, fun p l e R s m args below meth c H locs cells slots ls ad base D cA adS mc ms TX C T1 T2 T3 => lv_lor C.1 C.2.1 hd  (h.2 p l e R s m args below meth c H locs cells slots ls ad base D cA adS mc ms TX C T1 T2 T3)⟩
theorem jw_lcmp {Lx : Nat} {xs : Nat → Int32} {d pc : Nat} {M : jv_M} {L S : List Value} {G G' : jv_Gr} {I I' : jv_I} {J J' : jv_J} {r : Option Value} {x y : Int64} (hd : decode M.2.1 pc = .ok (.lcmp, 1))  (h : jw_V Lx xs d M (pc + 1) L (.int (lg_cmp x y) :: S) G I J r G' I' J') : jw_V Lx xs d M pc L (.long y :: .long x :: S) G I J r G' I' J' := ⟨h.1, fun p l e R s m args below meth c H locs cells slots ls ad base D cA adS mc ms TX C T1 T2 T3 => W.lcmp C.1 C.2.1 hd  (h.2 p l e R s m args below meth c H locs cells slots ls ad base D cA adS mc ms TX C T1 T2 T3)⟩
theorem jw_icmp_eq {Lx : Nat} {xs : Nat → Int32} {d pc : Nat} {M : jv_M} {L S : List Value} {G G' : jv_Gr} {I I' : jv_I} {J J' : jv_J} {r : Option Value} {x y : Int32} {off : Int} {tgt : Nat} (hd : decode M.2.1 pc = .ok (.if_icmp .eq off, 3)) (ht : (pc : Int) + off = (tgt : Int)) (kt : x = y → jw_V Lx xs d M tgt L S G I J r G' I' J') (kf : ¬ x = y → jw_V Lx xs d M (pc + 3) L S G I J r G' I' J') : jw_V Lx xs d M pc L (.int y :: .int x :: S) G I J r G' I' J' := ⟨by
  by_cases q : x = y
  · exact (kt q).1
  · exact (kf (by first | exact q | simpa using q)).1, fun p l e R s m args below meth c H locs cells slots ls ad base D cA adS mc ms TX C T1 T2 T3 => lv_icmp_eq C.1 C.2.1 hd ht (fun q => (kt q).2 p l e R s m args below meth c H locs cells slots ls ad base D cA adS mc ms TX C T1 T2 T3) (fun q => (kf q).2 p l e R s m args below meth c H locs cells slots ls ad base D cA adS mc ms TX C T1 T2 T3)⟩
theorem jw_icmp_gt {Lx : Nat} {xs : Nat → Int32} {d pc : Nat} {M : jv_M} {L S : List Value} {G G' : jv_Gr} {I I' : jv_I} {J J' : jv_J} {r : Option Value} {x y : Int32} {off : Int} {tgt : Nat} (hd : decode M.2.1 pc = .ok (.if_icmp .gt off, 3)) (ht : (pc : Int) + off = (tgt : Int)) (kt : y < x → jw_V Lx xs d M tgt L S G I J r G' I' J') (kf : ¬ y < x → jw_V Lx xs d M (pc + 3) L S G I J r G' I' J') : jw_V Lx xs d M pc L (.int y :: .int x :: S) G I J r G' I' J' := ⟨by
  by_cases q : y < x
  · exact (kt q).1
  · exact (kf (by first | exact q | simpa using q)).1, fun p l e R s m args below meth c H locs cells slots ls ad base D cA adS mc ms TX C T1 T2 T3 => lv_icmp_gt C.1 C.2.1 hd ht (fun q => (kt q).2 p l e R s m args below meth c H locs cells slots ls ad base D cA adS mc ms TX C T1 T2 T3) (fun q => (kf q).2 p l e R s m args below meth c H locs cells slots ls ad base D cA adS mc ms TX C T1 T2 T3)⟩
theorem jw_if_eq {Lx : Nat} {xs : Nat → Int32} {d pc : Nat} {M : jv_M} {L S : List Value} {G G' : jv_Gr} {I I' : jv_I} {J J' : jv_J} {r : Option Value} {x : Int32} {off : Int} {tgt : Nat} (hd : decode M.2.1 pc = .ok (.ifCond .eq off, 3)) (ht : (pc : Int) + off = (tgt : Int)) (kt : x = 0 → jw_V Lx xs d M tgt L S G I J r G' I' J') (kf : ¬ x = 0 → jw_V Lx xs d M (pc + 3) L S G I J r G' I' J') : jw_V Lx xs d M pc L (.int x :: S) G I J r G' I' J' := ⟨by
  by_cases q : x = 0
  · exact (kt q).1
  · exact (kf (by first | exact q | simpa using q)).1, fun p l e R s m args below meth c H locs cells slots ls ad base D cA adS mc ms TX C T1 T2 T3 => lv_if_eq C.1 C.2.1 hd ht (fun q => (kt q).2 p l e R s m args below meth c H locs cells slots ls ad base D cA adS mc ms TX C T1 T2 T3) (fun q => (kf q).2 p l e R s m args below meth c H locs cells slots ls ad base D cA adS mc ms TX C T1 T2 T3)⟩
theorem jw_goto {Lx : Nat} {xs : Nat → Int32} {d pc : Nat} {M : jv_M} {L S : List Value} {G G' : jv_Gr} {I I' : jv_I} {J J' : jv_J} {r : Option Value} {off : Int} {tgt : Nat} (hd : decode M.2.1 pc = .ok (.goto off, 3)) (ht : (pc : Int) + off = (tgt : Int)) (h : jw_V Lx xs d M tgt L S G I J r G' I' J') : jw_V Lx xs d M pc L S G I J r G' I' J' := ⟨h.1, fun p l e R s m args below meth c H locs cells slots ls ad base D cA adS mc ms TX C T1 T2 T3 => lv_goto C.1 C.2.1 hd ht (h.2 p l e R s m args below meth c H locs cells slots ls ad base D cA adS mc ms TX C T1 T2 T3)⟩
theorem jw_dup {Lx : Nat} {xs : Nat → Int32} {d pc : Nat} {M : jv_M} {L S : List Value} {G G' : jv_Gr} {I I' : jv_I} {J J' : jv_J} {r : Option Value} {va : Value} (hd : decode M.2.1 pc = .ok (.dup, 1)) (hva : va.category = 1) (h : jw_V Lx xs d M (pc + 1) L (va :: va :: S) G I J r G' I' J') : jw_V Lx xs d M pc L (va :: S) G I J r G' I' J' := ⟨h.1, fun p l e R s m args below meth c H locs cells slots ls ad base D cA adS mc ms TX C T1 T2 T3 => lv_dup C.1 C.2.1 hd (by rw [jv_v_cat]; exact hva) (h.2 p l e R s m args below meth c H locs cells slots ls ad base D cA adS mc ms TX C T1 T2 T3)⟩
theorem jw_tableIn {Lx : Nat} {xs : Nat → Int32} {d pc : Nat} {M : jv_M} {L S : List Value} {G G' : jv_Gr} {I I' : jv_I} {J J' : jv_J} {r : Option Value} {dflt lo hi : Int} {offs : Array Int} {len : Nat} {x : Int32} {off : Int} {tgt : Nat} (hd : decode M.2.1 pc = .ok (.tableswitch dflt lo hi offs, len)) (h1 : ¬ x.toInt < lo) (h2 : ¬ hi < x.toInt) (ho : offs[(x.toInt - lo).toNat]? = some off) (ht : (pc : Int) + off = (tgt : Int)) (h : jw_V Lx xs d M tgt L S G I J r G' I' J') : jw_V Lx xs d M pc L (.int x :: S) G I J r G' I' J' := ⟨h.1, fun p l e R s m args below meth c H locs cells slots ls ad base D cA adS mc ms TX C T1 T2 T3 => lv_tableIn C.1 C.2.1 hd h1 h2 ho ht (h.2 p l e R s m args below meth c H locs cells slots ls ad base D cA adS mc ms TX C T1 T2 T3)⟩
theorem jw_tableOut {Lx : Nat} {xs : Nat → Int32} {d pc : Nat} {M : jv_M} {L S : List Value} {G G' : jv_Gr} {I I' : jv_I} {J J' : jv_J} {r : Option Value} {dflt lo hi : Int} {offs : Array Int} {len : Nat} {x : Int32} {tgt : Nat} (hd : decode M.2.1 pc = .ok (.tableswitch dflt lo hi offs, len)) (h0 : x.toInt < lo ∨ hi < x.toInt) (ht : (pc : Int) + dflt = (tgt : Int)) (h : jw_V Lx xs d M tgt L S G I J r G' I' J') : jw_V Lx xs d M pc L (.int x :: S) G I J r G' I' J' := ⟨h.1, fun p l e R s m args below meth c H locs cells slots ls ad base D cA adS mc ms TX C T1 T2 T3 => lv_tableOut C.1 C.2.1 hd h0 ht (h.2 p l e R s m args below meth c H locs cells slots ls ad base D cA adS mc ms TX C T1 T2 T3)⟩
theorem jw_back {Lx : Nat} {xs : Nat → Int32} {d pc : Nat} {M : jv_M} {L rest : List Value} {G G1 G' : jv_Gr} {I I1 I' : jv_I} {J J1 J' : jv_J} {r rv : Option Value} (h : jw_V Lx xs d M (pc + 3) L (rv.toList ++ rest) G1 I1 J1 r G' I' J') (hn : jv_n G ≤ jv_n G1 ∧ jv_s G ≤ jv_s G1) (hw : jv_n G1 = jv_n G ∨ (jv_ow (jv_n G) L ∧ jv_ow (jv_n G) rest ∧ jv_n G1 < 1000000))
    {p : Program} {l : Launch} {e : Env} {R : Room} {s : State} {m : MethodId} {args : Array Value} {below : List Frame} {meth : Method} {c : Code} {H : Heap} {locs : List Loc} {cells slots : Nat} {ls : Array Slot} {ad : Nat → Nat} {base : Nat} {D : va_G} {cA : Nat → ClassId} {adS : Nat → Nat} {mc ms : Nat} {st0 : List Value} {a : Array Value}
    (TX : jw_X Lx xs s adS base) (C : jv_Cx p s m args meth c M base D cA adS) (T1 : jv_Hp s H locs ad base D cA adS G I J) (T2 : jv_L ad ls M.2.2.1 L) (T3 : jv_Rm R cells slots mc ms d G G')
    (hr : va_Run p l e R s m args below meth c H locs cells slots (jv_n G1 - jv_n G) (jv_s G1 - jv_s G) (F0 m pc ls st0) (rest.map (jv_v ad)) (jv_Q base D cA ad (jv_n G) rv G1 I1 J1 a) (fun q => base ≤ q)) :
    W p l e R s m args below meth c H locs cells slots (MQ below (jv_Q base D cA ad (jv_n G) r G' I' J') args s mc ms (fun q => base ≤ q)) (F0 m pc ls st0) := by
  intro T hT X
  obtain ⟨v, st₀, t, T', Lc, h0, X', hL, e1, e2, ⟨⟨ad', hag, hgw, hv, hP, hD⟩, hF⟩, st⟩ := hr T hT X
  cases hv
  have hadr : ∀ q : Nat, (q ≤ jv_n G ∨ 1000000 ≤ q) → jv_n G1 = jv_n G ∨ jv_n G1 < 1000000 → ad' q = ad q := fun q hq hz => hag q (by omega)
  have hzz : jv_n G1 = jv_n G ∨ jv_n G1 < 1000000 := by
    rcases hw with h1 | ⟨-, -, h1⟩
    · exact Or.inl h1
    · exact Or.inr h1
  have hsame : ∀ vs : List Value, jv_n G1 = jv_n G ∨ jv_ow (jv_n G) vs → ∀ v ∈ vs, ∀ q : Nat, v = .ref q → ad' q = ad q := by
    intro vs hvs v hv q e
    rcases hvs with h1 | h1
    · exact hag q (by omega)
    · exact hadr q (h1 v hv q e) hzz
  have hL2 : jv_L ad' ls M.2.2.1 L := T2.ad (hsame L (hw.imp id (fun z => z.1)))
  have hS2 : rest.map (jv_v ad') = rest.map (jv_v ad) := jv_S_ad (hsame rest (hw.imp id (fun z => z.2.1)))
  obtain ⟨t1, t2, t3, t4, t5⟩ := T1
  obtain ⟨r1, r2, r3, r4, r5, r6⟩ := T3
  have hz := hF.1
  have hkp := hF.2
  rw [h0] at hz hkp
  have hkk := h.2 p l e R s m args below meth c T'.heap (locs ++ Lc) (cells + (jv_n G1 - jv_n G)) (slots + (jv_s G1 - jv_s G)) ls ad' base D cA adS mc ms TX C
    ⟨fun k => (hadr _ (Or.inr (by omega)) hzz).trans (t1 k), hgw, by rw [e1]; exact hP, hD, ⟨Nat.le_trans t5.1 (by rw [e1]; exact hz), fun q h1 h2 => by rw [e1, hkp q (Nat.lt_of_lt_of_le h1 t5.1) h2]; exact t5.2.1 q h1 h2, fun q hq => by
      rcases List.mem_append.mp hq with h | h
      · exact t5.2.2 q h
      · exact hL q h⟩⟩ hL2 ⟨r1, r2, r3, r4, by omega, by omega⟩
  have hkk2 := jv_W.mono (jv_MQ.mono (jv_Q_up (ad := ad) (n := jv_n G) (fun k hk => hag k (by have := h.1; omega)) hn.1)) hkk
  obtain ⟨t2, a1, b1⟩ := hkk2 T' rfl X'
  refine ⟨t2, st t2 ?_, b1⟩
  have hst : (rv.toList ++ rest).map (jv_v ad') = (rv.map (jv_v ad')).toList ++ rest.map (jv_v ad) := by
    rw [List.map_append, hS2]
    cases rv <;> rfl
  rw [hst] at a1
  exact a1
section JWC
variable {d d2 pc idx n : Nat} {M M2 : jv_M} {L S As rest : List Value} {G G1 G' : jv_Gr} {I I1 I' : jv_I} {J J1 J' : jv_J} {r rv : Option Value}
theorem jw_callV {Lx : Nat} {xs : Nat → Int32} {a ci nn N : Nat} {T : u_T} (hd : decode M.2.1 pc = .ok (.invokevirtual idx, 3)) (hok : jv_ok M2 n) (hin : Cond.instanceMethod M2.1 ∈ lw_tg) (hse : Cond.selects M2.1.cls M2.1 M2.1 ∈ lw_tg) (hl : Cond.methodLink M.1.cls idx M2.1 ∈ lw_tg) (hcl : vwCl[ci]? = some (M2.1.cls, T, N)) (ha : jv_k G a = (ci + 10, nn)) (hC : jv_C d2 M2 (.ref a :: As) G I J rv G1 I1 J1) (hdd : d2 + 1 ≤ d) (hn : As.length = n) (hs : As.reverse ++ .ref a :: rest = S) (h8 : (rest.map fun v => v.category).sum ≤ 8) (hw : jv_n G1 = jv_n G ∨ (jv_ow (jv_n G) L ∧ jv_ow (jv_n G) rest ∧ jv_n G1 < 1000000))
    (h : jw_V Lx xs d M (pc + 3) L (rv.toList ++ rest) G1 I1 J1 r G' I' J') : jw_V Lx xs d M pc L S G I J r G' I' J' := by
  refine ⟨by have := h.1; have := hC.1; omega, fun p l e R s m args below meth c H locs cells slots ls ad base D cA adS mc ms TX C T1 T2 T3 => ?_⟩
  have hci : ci < 6 := (List.getElem?_eq_some_iff.mp hcl).1
  have hn0 := jv_k_in ha (by omega)
  have hts := C.2.2.2.2.2.2.2.1
  have hM := hC.2 l ({ frames := d2, cells := jv_n G1 - jv_n G, slots := jv_s G1 - jv_s G, locals := 40 * d2 }) base D cA adS ad (Nat.le_refl _) (Nat.le_refl _) rfl rfl T1.1
  have hmL := hok.2.2.2.2
  have cb := callB_of (own := M.1.cls) (index := idx) (rm := { frames := d2, cells := jv_n G1 - jv_n G, slots := jv_s G1 - jv_s G, locals := 40 * d2 }) (R := R) n hts (jv_good hok) rfl rfl rfl (hts _ hok.2.1) (hts _ hl) hok.2.2.1 ⟨by have := T3.1; show d2 + 1 ≤ R.frames; omega, by have := T3.2.1; show 8 + (M2.2.2.1 + 11) + 40 * d2 ≤ R.locals; omega⟩
  have he := jv_W_at (cA := cA) (ad := ad) (I := I) (J := J) hn0
  rw [jv_E_obj ha] at he
  have hpre := jv_pre (As := .ref a :: As) C T1
  rw [jv_mr hn0.1] at hpre
  refine jw_back h hC.1 hw TX C T1 T2 T3 (va_runV (As := As.map (jv_v ad)) (b := ad a) (Ts := lw_tg) ⟨C.1, C.2.1, C.2.2.1, C.2.2.2.2.2.2.1, hts⟩ hM ⟨cb, hts _ hin, hts _ hse⟩ ⟨hpre.1, va_recv C.2.2.2.2.2.2.2.2.2.1 T1.2.2.1 hcl he, hpre.2⟩ rfl (by rw [List.length_map]; exact hn) T2.2.1 ?_ ?_ hd ?_)
  · show S.map (jv_v ad) = _
    rw [← hs, List.map_append, jv_mr hn0.1, List.map_reverse]
  · exact lv_room (by rw [jv_cats]; exact h8)
  · obtain ⟨r1, r2, r3, r4, r5, r6⟩ := T3
    have := h.1
    have := hC.1
    omega
theorem jw_callI {Lx : Nat} {xs : Nat → Int32} {a : Nat} (hd : decode M.2.1 pc = .ok (.invokespecial idx, 3)) (hok : jv_ok M2 n) (hret : M2.2.2.2 = none) (hnm : M2.1.name = "<init>") (hin : Cond.instanceMethod M2.1 ∈ lw_tg) (hl : Cond.methodLink M.1.cls idx M2.1 ∈ lw_tg) (ha : a ≠ 0) (hC : jv_C d2 M2 (.ref a :: As) G I J none G1 I1 J1) (hdd : d2 + 1 ≤ d) (hn : As.length = n) (hs : As.reverse ++ .ref a :: rest = S) (h8 : (rest.map fun v => v.category).sum ≤ 8) (hw : jv_n G1 = jv_n G ∨ (jv_ow (jv_n G) L ∧ jv_ow (jv_n G) rest ∧ jv_n G1 < 1000000))
    (h : jw_V Lx xs d M (pc + 3) L rest G1 I1 J1 r G' I' J') : jw_V Lx xs d M pc L S G I J r G' I' J' := by
  refine ⟨by have := h.1; have := hC.1; omega, fun p l e R s m args below meth c H locs cells slots ls ad base D cA adS mc ms TX C T1 T2 T3 => ?_⟩
  have hts := C.2.2.2.2.2.2.2.1
  have hM := hC.2 l ({ frames := d2, cells := jv_n G1 - jv_n G, slots := jv_s G1 - jv_s G, locals := 40 * d2 }) base D cA adS ad (Nat.le_refl _) (Nat.le_refl _) rfl rfl T1.1
  have hmL := hok.2.2.2.2
  have cb := callB_of (own := M.1.cls) (index := idx) (ret := none) (ws' := lw_tg) (rm := { frames := d2, cells := jv_n G1 - jv_n G, slots := jv_s G1 - jv_s G, locals := 40 * d2 }) (R := R) n hts (jv_good hok) (by rw [← hret]) rfl rfl (hts _ hok.2.1) (hts _ hl) hok.2.2.1 ⟨by have := T3.1; show d2 + 1 ≤ R.frames; omega, by have := T3.2.1; show 8 + (M2.2.2.1 + 11) + 40 * d2 ≤ R.locals; omega⟩
  have hpre := jv_pre (As := .ref a :: As) C T1
  rw [jv_mr ha] at hpre
  refine jw_back (rv := none) h hC.1 hw TX C T1 T2 T3 (va_runI (As := As.map (jv_v ad)) (b := ad a) (Ts := lw_tg) ⟨C.1, C.2.1, C.2.2.1, C.2.2.2.2.2.2.1, hts⟩ hM ⟨cb, hnm, hts _ hin⟩ hpre rfl (by rw [List.length_map]; exact hn) T2.2.1 ?_ ?_ hd ?_)
  · show S.map (jv_v ad) = _
    rw [← hs, List.map_append, jv_mr ha, List.map_reverse]
  · exact lv_room (by rw [jv_cats]; exact h8)
  · obtain ⟨r1, r2, r3, r4, r5, r6⟩ := T3
    have := h.1
    have := hC.1
    omega
theorem jw_iret {Lx : Nat} {xs : Nat → Int32} {x : Int32} {ty : FieldType} {z : Int32} (hd : decode M.2.1 pc = .ok (.ireturn, 1)) (hr : M.2.2.2 = some ty) (hn : narrow ty (.int x) = .int x) (hx : x = z) (hI : I' = I) (hJ : J' = J) : jw_V Lx xs d M pc L [.int x] G I J (some (.int z)) G I' J' := by
  subst hx; subst hI; subst hJ
  refine ⟨⟨Nat.le_refl _, Nat.le_refl _⟩, fun p l e R s m args below meth c H locs cells slots ls ad base D cA adS mc ms TX C T1 T2 T3 => ?_⟩
  exact jv_ret T1 T3 (fun Qc hq hf => W.zret C.1 C.2.1 (by rw [C.2.2.2.1]; exact hr) hn (fun t ht _ => hq t ht) hf hd C.2.2.2.2.1)
end JWC
section JWN
variable {d pc idx : Nat} {M : jv_M} {L S : List Value} {G G' : jv_Gr} {I I' : jv_I} {J J' : jv_J} {r : Option Value}
theorem jw_born {Lx : Nat} {xs : Nat → Int32} {k : Nat × Nat} {sl pc2 q : Nat} {I2 : jv_I} {J2 : jv_J} {e0 : va_E} {H1 : Heap} (h : jw_V Lx xs d M pc2 L (.ref (jv_n G + 1) :: S) (jv_nw G k sl) I2 J2 r G' I' J') (hlt : jv_n G + 1 < 1000000) (hoL : jv_ow (jv_n G) L) (hoS : jv_ow (jv_n G) S) (hI : ∀ b, b ≤ jv_n G → I2 b = I b) (hJ : ∀ b, b ≤ jv_n G → J2 b = J b)
    {p : Program} {l : Launch} {e : Env} {R : Room} {s : State} {m : MethodId} {args : Array Value} {below : List Frame} {meth : Method} {c : Code} {H : Heap} {locs : List Loc} {cells slots : Nat} {ls : Array Slot} {ad : Nat → Nat} {base : Nat} {D : va_G} {cA : Nat → ClassId} {adS : Nat → Nat} {mc ms : Nat}
    (TX : jw_X Lx xs s adS base) (C : jv_Cx p s m args meth c M base D cA adS) (T1 : jv_Hp s H locs ad base D cA adS G I J) (T2 : jv_L ad ls M.2.2.1 L) (T3 : jv_Rm R cells slots mc ms d G G')
    (he : jv_E cA (jv_ad ad (jv_n G + 1) q) (jv_nw G k sl) I2 J2 (jv_n G + 1) = e0) (h1 : va_P D vwCl (jv_W cA ad G I J ++ [(q, e0)]) H1) (h2 : va_D (fun q => base ≤ q) (jv_W cA ad G I J ++ [(q, e0)])) (h3 : va_S (fun q => base ≤ q) s.heap H1 locs) :
    W p l e R s m args below meth c H1 locs (cells + 1) (slots + sl) (MQ below (jv_Q base D cA ad (jv_n G) r G' I' J') args s mc ms (fun q => base ≤ q)) (F0 m pc2 ls (.ref q :: S.map (jv_v ad))) := by
  have hq : jv_ad ad (jv_n G + 1) q (jv_n G + 1) = q := if_pos rfl
  have hold : ∀ b, b ≤ jv_n G → jv_ad ad (jv_n G + 1) q b = ad b := fun b hb => by
    show (if b = jv_n G + 1 then q else ad b) = ad b
    exact if_neg (by omega)
  have hWn := jv_W_new (cA := cA) (ad := ad) (ad2 := jv_ad ad (jv_n G + 1) q) (k := k) (sl := sl) (I := I) (J := J) (I2 := I2) (J2 := J2) T1.2.1 hold hI hJ
  rw [hq, he] at hWn
  rw [← hWn] at h1 h2
  obtain ⟨r1, r2, r3, r4, r5, r6⟩ := T3
  have hm := h.1
  have hn1 : jv_n (jv_nw G k sl) = jv_n G + 1 := rfl
  have hs1 : jv_s (jv_nw G k sl) = jv_s G + sl := rfl
  have hk := h.2 p l e R s m args below meth c H1 locs (cells + 1) (slots + sl) ls (jv_ad ad (jv_n G + 1) q) base D cA adS mc ms TX C ⟨fun j => by
    rw [← T1.1 j]
    show (if 1000000 + j = jv_n G + 1 then q else ad (1000000 + j)) = ad (1000000 + j)
    exact if_neg (by omega), jv_gw_new T1.2.1, h1, h2, h3⟩ (T2.ad (jv_ad_ow hoL hlt)) ⟨r1, r2, r3, r4, by rw [hn1]; omega, by rw [hs1]; omega⟩
  rw [jv_mr (by omega), hq, jv_S_ad (jv_ad_ow hoS hlt)] at hk
  exact jv_W.mono (jv_MQ.mono (jv_Q_up (ad := ad) (n := jv_n G) (fun b hb => by
    show (if b = jv_n G + 1 then q else ad b) = ad b
    exact if_neg (by omega)) (by omega))) hk
theorem jw_new {Lx : Nat} {xs : Nat → Int32} {ci N : Nat} {Cn : String} {T : u_T} {ty : Nat → FieldType} (hd : decode M.2.1 pc = .ok (.new idx, 3)) (hc : jv_cl ci Cn T N ty) (hl : Cond.classLink M.1.cls idx Cn ∈ lw_tg) (hlt : jv_n G + 1 < 1000000) (hoL : jv_ow (jv_n G) L) (hoS : jv_ow (jv_n G) S) (h : jw_V Lx xs d M (pc + 3) L (.ref (jv_n G + 1) :: S) (jv_nw G (ci + 10, 0) N) (jv_zI I (jv_n G + 1)) J r G' I' J') : jw_V Lx xs d M pc L S G I J r G' I' J' := by
  have hm := h.1
  have hn1 : jv_n (jv_nw G (ci + 10, 0) N) = jv_n G + 1 := rfl
  have hs1 : jv_s (jv_nw G (ci + 10, 0) N) = jv_s G + N := rfl
  refine ⟨by omega, fun p l e R s m args below meth c H locs cells slots ls ad base D cA adS mc ms TX C T1 T2 T3 => ?_⟩
  obtain ⟨c1, c2, c3, c4, c5, c6, c7, c8, c9⟩ := hc
  have hts := C.2.2.2.2.2.2.2.1
  have T3' := T3
  obtain ⟨r1, r2, r3, r4, r5, r6⟩ := T3'
  refine va_new (own := M.1.cls) (C := Cn) (T := T) (N := N) (ci := ci) (fs := (List.range N).map (fun k => if jv_isr ci k = true then Value.null else .int 0)) C.1 C.2.1 hts c3 ty c4 C.2.2.2.2.2.2.1 (hts _ hl) (hts _ c7) (hts _ c8) C.2.2.2.2.2.2.2.2.2.1 T1.2.2.1 T1.2.2.2.1 T1.2.2.2.2 (fun q hq => Nat.le_trans C.2.2.2.2.2.2.2.2.1 hq) c1 ?_ (by omega) (by omega) hd (fun q H1 h1 h2 h3 => jw_born h hlt hoL hoS (fun b hb => ?_) (fun _ _ => rfl) TX C T1 T2 T3 ?_ h1 h2 h3)
  · intro j hj
    rw [c9 j hj]
    unfold vp_V
    rw [List.getD_eq_getElem?_getD, List.getElem?_map, List.getElem?_range hj]
    rfl
  · funext j
    show (if b = jv_n G + 1 then 0 else I b j) = I b j
    exact if_neg (by omega)
  · rw [jv_E_obj (G := jv_nw G (ci + 10, 0) N) jv_k_new]
    unfold jv_fs
    rw [c2]
    congr 2
    apply List.map_congr_left
    intro k _
    unfold jv_f
    rw [jv_r_new]
    have hz : jv_zI I (jv_n G + 1) (jv_n G + 1) k = 0 := if_pos rfl
    rw [hz]
    rfl
theorem jw_sld {Lx : Nat} {xs : Nat → Int32} {i : Nat} {v : Int32} (hd : decode M.2.1 pc = .ok (.iaload, 1)) (hi : i < Lx) (hL : Lx < 2 ^ 30) (hv : xs i = v) (h : jw_V Lx xs d M (pc + 1) L (.int v :: S) G I J r G' I' J') : jw_V Lx xs d M pc L (.int (nI i) :: .ref (1000000 + 400) :: S) G I J r G' I' J' := by
  subst hv
  refine ⟨h.1, fun p l e R s m args below meth c H locs cells slots ls ad base D cA adS mc ms TX C T1 T2 T3 => ?_⟩
  have hk := h.2 p l e R s m args below meth c H locs cells slots ls ad base D cA adS mc ms TX C T1 T2 T3
  rw [List.map_cons, jv_mr (by decide), T1.1 400]
  have hx := C.2.2.2.2.2.2.2.2.1
  have hl := TX.2
  refine va_sld C.1 C.2.1 TX.1 (Nat.lt_of_lt_of_le hl hx) (show ¬ base ≤ adS 400 by omega) T1.2.2.2.2 (vp_in_nI hi (by omega)) hd ?_
  rw [nI_clamp (by omega)]
  exact hk
theorem jw_slen {Lx : Nat} {xs : Nat → Int32} (hd : decode M.2.1 pc = .ok (.arraylength, 1)) (h : jw_V Lx xs d M (pc + 1) L (.int (nI Lx) :: S) G I J r G' I' J') : jw_V Lx xs d M pc L (.ref (1000000 + 400) :: S) G I J r G' I' J' := by
  refine ⟨h.1, fun p l e R s m args below meth c H locs cells slots ls ad base D cA adS mc ms TX C T1 T2 T3 => ?_⟩
  have hk := h.2 p l e R s m args below meth c H locs cells slots ls ad base D cA adS mc ms TX C T1 T2 T3
  rw [jv_mr (by decide), T1.1 400]
  have hx := C.2.2.2.2.2.2.2.2.1
  have hl := TX.2
  exact va_slen C.1 C.2.1 TX.1 (Nat.lt_of_lt_of_le hl hx) (show ¬ base ≤ adS 400 by omega) T1.2.2.2.2 hd hk
end JWN
