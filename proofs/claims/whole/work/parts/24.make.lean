/-! ===== what is made ===== -/
section JVN
variable {d pc idx : Nat} {M : jv_M} {L S : List Value} {G G' : jv_Gr} {I I' : jv_I} {J J' : jv_J} {r : Option Value}
theorem jv_born {k : Nat × Nat} {sl pc2 q : Nat} {I2 : jv_I} {J2 : jv_J} {e0 : va_E} {H1 : Heap} (h : jv_V d M pc2 L (.ref (jv_n G + 1) :: S) (jv_nw G k sl) I2 J2 r G' I' J') (hlt : jv_n G + 1 < 1000000) (hoL : jv_ow (jv_n G) L) (hoS : jv_ow (jv_n G) S) (hI : ∀ b, b ≤ jv_n G → I2 b = I b) (hJ : ∀ b, b ≤ jv_n G → J2 b = J b)
    {p : Program} {l : Launch} {e : Env} {R : Room} {s : State} {m : MethodId} {args : Array Value} {below : List Frame} {meth : Method} {c : Code} {H : Heap} {locs : List Loc} {cells slots : Nat} {ls : Array Slot} {ad : Nat → Nat} {base : Nat} {D : va_G} {cA : Nat → ClassId} {adS : Nat → Nat} {mc ms : Nat}
    (C : jv_Cx p s m args meth c M base D cA adS) (T1 : jv_Hp s H locs ad base D cA adS G I J) (T2 : jv_L ad ls M.2.2.1 L) (T3 : jv_Rm R cells slots mc ms d G G')
    (he : jv_E cA (jv_ad ad (jv_n G + 1) q) (jv_nw G k sl) I2 J2 (jv_n G + 1) = e0) (h1 : va_P D vwCl (jv_W cA ad G I J ++ [(q, e0)]) H1) (h2 : va_D (fun q => base ≤ q) (jv_W cA ad G I J ++ [(q, e0)])) (h3 : va_S (fun q => base ≤ q) s.heap H1 locs) :
    W p l e R s m args below meth c H1 locs (cells + 1) (slots + sl) (MQ below (jv_Q base D cA ad (jv_n G) r G' I' J') args s mc ms (fun q => base ≤ q)) (F0 m pc2 ls (.ref q :: S.map (jv_v ad))) := by
  have hq : jv_ad ad (jv_n G + 1) q (jv_n G + 1) = q := if_pos rfl
  have hold : ∀ b, b ≤ jv_n G → jv_ad ad (jv_n G + 1) q b = ad b := fun b hb => by
    show (if b = jv_n G + 1 then q else ad b) = ad b
    exact if_neg (by omega)
  have hWn := jv_W_new (cA := cA) (ad := ad) (ad2 := jv_ad ad (jv_n G + 1) q) (k := k) (sl := sl) (I := I) (J := J) (I2 := I2) (J2 := J2) T1.2.1 hold hI hJ
  rw [hq, he] at hWn
  rw [← hWn] at h1 h2
  obtain ⟨r1, r2, r3, r4, r5, r6⟩ := T3
  have hm := h.1
  have hn1 : jv_n (jv_nw G k sl) = jv_n G + 1 := rfl
  have hs1 : jv_s (jv_nw G k sl) = jv_s G + sl := rfl
  have hk := h.2 p l e R s m args below meth c H1 locs (cells + 1) (slots + sl) ls (jv_ad ad (jv_n G + 1) q) base D cA adS mc ms C ⟨fun j => by
    rw [← T1.1 j]
    show (if 1000000 + j = jv_n G + 1 then q else ad (1000000 + j)) = ad (1000000 + j)
    exact if_neg (by omega), jv_gw_new T1.2.1, h1, h2, h3⟩ (T2.ad (jv_ad_ow hoL hlt)) ⟨r1, r2, r3, r4, by rw [hn1]; omega, by rw [hs1]; omega⟩
  rw [jv_mr (by omega), hq, jv_S_ad (jv_ad_ow hoS hlt)] at hk
  exact jv_W.mono (jv_MQ.mono (jv_Q_up (ad := ad) (n := jv_n G) (fun b hb => by
    show (if b = jv_n G + 1 then q else ad b) = ad b
    exact if_neg (by omega)) (by omega))) hk
theorem jv_new {ci N : Nat} {Cn : String} {T : u_T} {ty : Nat → FieldType} (hd : decode M.2.1 pc = .ok (.new idx, 3)) (hc : jv_cl ci Cn T N ty) (hl : Cond.classLink M.1.cls idx Cn ∈ lw_tg) (hlt : jv_n G + 1 < 1000000) (hoL : jv_ow (jv_n G) L) (hoS : jv_ow (jv_n G) S) (h : jv_V d M (pc + 3) L (.ref (jv_n G + 1) :: S) (jv_nw G (ci + 10, 0) N) (jv_zI I (jv_n G + 1)) J r G' I' J') : jv_V d M pc L S G I J r G' I' J' := by
  have hm := h.1
  have hn1 : jv_n (jv_nw G (ci + 10, 0) N) = jv_n G + 1 := rfl
  have hs1 : jv_s (jv_nw G (ci + 10, 0) N) = jv_s G + N := rfl
  refine ⟨by omega, fun p l e R s m args below meth c H locs cells slots ls ad base D cA adS mc ms C T1 T2 T3 => ?_⟩
  obtain ⟨c1, c2, c3, c4, c5, c6, c7, c8, c9⟩ := hc
  have hts := C.2.2.2.2.2.2.2.1
  have T3' := T3
  obtain ⟨r1, r2, r3, r4, r5, r6⟩ := T3'
  refine va_new (own := M.1.cls) (C := Cn) (T := T) (N := N) (ci := ci) (fs := (List.range N).map (fun k => if jv_isr ci k = true then Value.null else .int 0)) C.1 C.2.1 hts c3 ty c4 C.2.2.2.2.2.2.1 (hts _ hl) (hts _ c7) (hts _ c8) C.2.2.2.2.2.2.2.2.2.1 T1.2.2.1 T1.2.2.2.1 T1.2.2.2.2 (fun q hq => Nat.le_trans C.2.2.2.2.2.2.2.2.1 hq) c1 ?_ (by omega) (by omega) hd (fun q H1 h1 h2 h3 => jv_born h hlt hoL hoS (fun b hb => ?_) (fun _ _ => rfl) C T1 T2 T3 ?_ h1 h2 h3)
  · intro j hj
    rw [c9 j hj]
    unfold vp_V
    rw [List.getD_eq_getElem?_getD, List.getElem?_map, List.getElem?_range hj]
    rfl
  · funext j
    show (if b = jv_n G + 1 then 0 else I b j) = I b j
    exact if_neg (by omega)
  · rw [jv_E_obj (G := jv_nw G (ci + 10, 0) N) jv_k_new]
    unfold jv_fs
    rw [c2]
    congr 2
    apply List.map_congr_left
    intro k _
    unfold jv_f
    rw [jv_r_new]
    have hz : jv_zI I (jv_n G + 1) (jv_n G + 1) k = 0 := if_pos rfl
    rw [hz]
    rfl
theorem jv_newI {N : Nat} {x : Int32} (hd : decode M.2.1 pc = .ok (.newarray .int, 2)) (hx : x = nI N) (hN : N < 1000000) (har : Cond.arrayClass .int ∈ lw_tg) (hlt : jv_n G + 1 < 1000000) (hoL : jv_ow (jv_n G) L) (hoS : jv_ow (jv_n G) S) (h : jv_V d M (pc + 2) L (.ref (jv_n G + 1) :: S) (jv_nw G (0, N) N) (jv_zI I (jv_n G + 1)) J r G' I' J') : jv_V d M pc L (.int x :: S) G I J r G' I' J' := by
  subst hx
  have hm := h.1
  have hn1 : jv_n (jv_nw G (0, N) N) = jv_n G + 1 := rfl
  have hs1 : jv_s (jv_nw G (0, N) N) = jv_s G + N := rfl
  refine ⟨by omega, fun p l e R s m args below meth c H locs cells slots ls ad base D cA adS mc ms C T1 T2 T3 => ?_⟩
  have hts := C.2.2.2.2.2.2.2.1
  have hK := C.2.2.2.2.2.2.2.2.2.1
  have T3' := T3
  obtain ⟨r1, r2, r3, r4, r5, r6⟩ := T3'
  refine va_newa (atype := .int) (ty := .int) (a0 := (N, .inl (fun _ => 0))) C.1 C.2.1 (hts _ har) rfl hK T1.2.2.1 T1.2.2.2.1 T1.2.2.2.2 (fun q hq => Nat.le_trans C.2.2.2.2.2.2.2.2.1 hq) (fun _ => rfl) (nI_pos (by omega)) (nI_clamp (by omega)) (by show N * 4 ≤ _; omega) (by omega) (by omega) hd (fun q cA' H1 hK1 h1 h2 h3 => ?_)
  have e1 : va_RA s (cA 0) .int := (hK.2 0 (cA 0, .int) rfl).2
  have e2 : va_RA s cA' .int := (hK1.2 4 (cA', .int) rfl).2
  have e3 : cA' = cA 0 := Option.some.inj (Eq.trans (Eq.symm e2) e1)
  subst e3
  refine jv_born h hlt hoL hoS (fun b hb => ?_) (fun _ _ => rfl) C T1 T2 T3 ?_ h1 h2 h3
  · funext j
    show (if b = jv_n G + 1 then 0 else I b j) = I b j
    exact if_neg (by omega)
  · rw [jv_E_0 (G := jv_nw G (0, N) N) jv_k_new]
    congr 4
    funext j
    exact if_pos rfl
theorem jv_newJ {N : Nat} {x : Int32} (hd : decode M.2.1 pc = .ok (.newarray .long, 2)) (hx : x = nI N) (hN : N < 1000000) (har : Cond.arrayClass .long ∈ lw_tg) (hlt : jv_n G + 1 < 1000000) (hoL : jv_ow (jv_n G) L) (hoS : jv_ow (jv_n G) S) (h : jv_V d M (pc + 2) L (.ref (jv_n G + 1) :: S) (jv_nw G (1, N) N) I (jv_zJ J (jv_n G + 1)) r G' I' J') : jv_V d M pc L (.int x :: S) G I J r G' I' J' := by
  subst hx
  have hm := h.1
  have hn1 : jv_n (jv_nw G (1, N) N) = jv_n G + 1 := rfl
  have hs1 : jv_s (jv_nw G (1, N) N) = jv_s G + N := rfl
  refine ⟨by omega, fun p l e R s m args below meth c H locs cells slots ls ad base D cA adS mc ms C T1 T2 T3 => ?_⟩
  have hts := C.2.2.2.2.2.2.2.1
  have hK := C.2.2.2.2.2.2.2.2.2.1
  have T3' := T3
  obtain ⟨r1, r2, r3, r4, r5, r6⟩ := T3'
  refine va_newa (atype := .long) (ty := .long) (a0 := (N, .inr (.inl (fun _ => 0)))) C.1 C.2.1 (hts _ har) rfl hK T1.2.2.1 T1.2.2.2.1 T1.2.2.2.2 (fun q hq => Nat.le_trans C.2.2.2.2.2.2.2.2.1 hq) (fun _ => rfl) (nI_pos (by omega)) (nI_clamp (by omega)) (by show N * 8 ≤ _; omega) (by omega) (by omega) hd (fun q cA' H1 hK1 h1 h2 h3 => ?_)
  have e1 : va_RA s (cA 1) .long := (hK.2 1 (cA 1, .long) rfl).2
  have e2 : va_RA s cA' .long := (hK1.2 4 (cA', .long) rfl).2
  have e3 : cA' = cA 1 := Option.some.inj (Eq.trans (Eq.symm e2) e1)
  subst e3
  refine jv_born h hlt hoL hoS (fun _ _ => rfl) (fun b hb => ?_) C T1 T2 T3 ?_ h1 h2 h3
  · funext j
    show (if b = jv_n G + 1 then 0 else J b j) = J b j
    exact if_neg (by omega)
  · rw [jv_E_1 (G := jv_nw G (1, N) N) jv_k_new]
    congr 5
    funext j
    exact if_pos rfl
theorem jv_newA {N : Nat} {x : Int32} (hd : decode M.2.1 pc = .ok (.anewarray idx, 3)) (hx : x = nI N) (hN : N < 1000000) (hl : Cond.classLink M.1.cls idx RX1 ∈ lw_tg) (hlt : jv_n G + 1 < 1000000) (hoL : jv_ow (jv_n G) L) (hoS : jv_ow (jv_n G) S) (h : jv_V d M (pc + 3) L (.ref (jv_n G + 1) :: S) (jv_nw G (2, N) N) I J r G' I' J') : jv_V d M pc L (.int x :: S) G I J r G' I' J' := by
  subst hx
  have hm := h.1
  have hn1 : jv_n (jv_nw G (2, N) N) = jv_n G + 1 := rfl
  have hs1 : jv_s (jv_nw G (2, N) N) = jv_s G + N := rfl
  refine ⟨by omega, fun p l e R s m args below meth c H locs cells slots ls ad base D cA adS mc ms C T1 T2 T3 => ?_⟩
  have hts := C.2.2.2.2.2.2.2.1
  have hK := C.2.2.2.2.2.2.2.2.2.1
  have hE := C.2.2.2.2.2.2.2.2.2.2
  have T3' := T3
  obtain ⟨r1, r2, r3, r4, r5, r6⟩ := T3'
  refine va_newq (own := M.1.cls) (C := RX1) C.1 C.2.1 C.2.2.2.2.2.2.1 (hts _ hl) hE.2.2.2.2.2.2.1 hK T1.2.2.1 T1.2.2.2.1 T1.2.2.2.2 (fun q hq => Nat.le_trans C.2.2.2.2.2.2.2.2.1 hq) (nI_pos (by omega)) (nI_clamp (by omega)) (by omega) (by omega) (by omega) hd (fun q cA' H1 hK1 h1 h2 h3 => ?_)
  obtain ⟨-, -, -, -, -, e1⟩ := (hK.2 2 (cA 2, .object RX1) rfl).2
  obtain ⟨-, -, -, -, -, e2⟩ := (hK1.2 4 (cA', .object RX1) rfl).2
  have e3 : cA' = cA 2 := Option.some.inj (Eq.trans (Eq.symm e2) e1)
  subst e3
  refine jv_born h hlt hoL hoS (fun _ _ => rfl) (fun _ _ => rfl) C T1 T2 T3 ?_ h1 h2 h3
  rw [jv_E_2 (G := jv_nw G (2, N) N) jv_k_new]
  congr 7
  funext j
  rw [jv_r_new]
  exact if_pos rfl
theorem jv_objInit {a : Nat} (hd : decode M.2.1 pc = .ok (.invokespecial idx, 3)) (hl : Cond.methodLink M.1.cls idx Lib.objectInit ∈ lw_tg) (hin : Cond.instanceMethod Lib.objectInit ∈ lw_tg) (hco : Cond.code Lib.objectInit ⟨#[0xb1]⟩ 1 none ∈ lw_tg) (ha : a ≠ 0) (h8 : (S.map fun v => v.category).sum ≤ 8) (hd1 : 1 ≤ d) (h : jv_V d M (pc + 3) L S G I J r G' I' J') : jv_V d M pc L (.ref a :: S) G I J r G' I' J' := by
  refine ⟨h.1, fun p l e R s m args below meth c H locs cells slots ls ad base D cA adS mc ms C T1 T2 T3 => ?_⟩
  have hk := h.2 p l e R s m args below meth c H locs cells slots ls ad base D cA adS mc ms C T1 T2 T3
  have hts := C.2.2.2.2.2.2.2.1
  obtain ⟨r1, r2, r3, r4, r5, r6⟩ := T3
  rw [jv_mr ha]
  have h9 : 2 * (F0 m pc ls (.ref (ad a) :: S.map (jv_v ad))).monitorRoom + ((S.map (jv_v ad)).map fun v => v.category).sum ≤ 8 := lv_room (by rw [jv_cats]; exact h8)
  exact W.objInit C.1 C.2.1 (own := M.1.cls) C.2.2.2.2.2.2.1 (hts _ hl) (hts _ hin) (hts _ hco) (g := F0 m pc ls (.ref (ad a) :: S.map (jv_v ad))) rfl (by rw [C.2.2.1]; exact T2.2.1) rfl hd (by omega) (by omega) hk
/-- the static array, and what it holds -/
theorem jv_under_get (hd : decode M.2.1 pc = .ok (.getstatic idx, 3)) (hl : Cond.fieldLink M.1.cls idx RX4 "UNDER" "[I" ∈ lw_tg) (h : jv_V d M (pc + 3) L (.ref 1000100 :: S) G I J r G' I' J') : jv_V d M pc L S G I J r G' I' J' := by
  refine ⟨h.1, fun p l e R s m args below meth c H locs cells slots ls ad base D cA adS mc ms C T1 T2 T3 => ?_⟩
  have hk := h.2 p l e R s m args below meth c H locs cells slots ls ad base D cA adS mc ms C T1 T2 T3
  have hts := C.2.2.2.2.2.2.2.1
  have hE := C.2.2.2.2.2.2.2.2.2.2
  rw [jv_mr (by decide), T1.1 100] at hk
  exact va_gets C.1 C.2.1 (own := M.1.cls) (ref := RX4) hE.1 T1.2.2.2.2 C.2.2.2.2.2.2.1 (hts _ hl) (fun _ q => q) hd hk
theorem jv_under_at {i : Nat} (hd : decode M.2.1 pc = .ok (.iaload, 1)) (hi : i < 6) (h : jv_V d M (pc + 1) L (.int (jv_under i) :: S) G I J r G' I' J') : jv_V d M pc L (.int (nI i) :: .ref 1000100 :: S) G I J r G' I' J' := by
  refine ⟨h.1, fun p l e R s m args below meth c H locs cells slots ls ad base D cA adS mc ms C T1 T2 T3 => ?_⟩
  have hk := h.2 p l e R s m args below meth c H locs cells slots ls ad base D cA adS mc ms C T1 T2 T3
  have hE := C.2.2.2.2.2.2.2.2.2.2
  rw [List.map_cons, jv_mr (by decide), T1.1 100]
  exact va_ti C.1 C.2.1 hE.2.1 T1.2.2.2.2 (vp_in_nI hi (by omega)) (v := .int (jv_under i)) (by rw [nI_clamp (by omega)]) hd hk
end JVN
