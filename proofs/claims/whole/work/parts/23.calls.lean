/-! ===== contracts and calls ===== -/
theorem jv_AOA {u U : State} {ty : FieldType} (hvm : u.vm.Alike U.vm) (h : (Cond.arrayOver ty).before #[] u = true) : (Cond.arrayOver ty).before #[] U = true := by
  have h2 : (Cond.arrayOver ty).before #[] (u.setVm U.vm) = true := by rw [Cond.arrayOver_setVmC hvm]; exact h
  exact h2
theorem jv_env.to {base : Nat} {adS : Nat → Nat} {s U : State} {H : Heap} {locs : List Loc} (h : jv_env base adS s) (hS : va_S (fun q => base ≤ q) s.heap H locs) (hU : U.heap = H) (hW : s.WarmedH U.vm) : jv_env base adS U := by
  obtain ⟨h1, h2, h3, h4, h5, h6, h7, h8, h9⟩ := h
  subst hU
  have hq := hS.2.1
  exact ⟨(h1.kept hq).moved hW.alike, (h2.kept hq).moved hW.alike, (h3.kept hq).moved hW.alike, (h4.kept hq).moved hW.alike, fun q hq => (h5 q hq).warm hW, fun q hq => (h6 q hq).warmM hW, h7.moved hW.alike, jv_AOA hW.alike h8, h9.imp (fun z => (z.kept hq).moved hW.alike) (fun z => (z.kept hq).moved hW.alike)⟩
theorem jv_env.calling {base : Nat} {adS : Nat → Nat} {U : State} {g : JFrame} {mk : MethodId} {a : Array Value} (h : jv_env base adS U) : jv_env base adS (U.calling g mk a) := by
  obtain ⟨h1, h2, h3, h4, h5, h6, h7, h8, h9⟩ := h
  exact ⟨h1.moved (U := U.calling g mk a) (Vm.Alike.refl U.vm), h2.moved (U := U.calling g mk a) (Vm.Alike.refl U.vm), h3.moved (U := U.calling g mk a) (Vm.Alike.refl U.vm), h4.moved (U := U.calling g mk a) (Vm.Alike.refl U.vm), fun q hq => (h5 q hq).same rfl, fun q hq => (h6 q hq).same rfl rfl, h7.moved (U := U.calling g mk a) (Vm.Alike.refl U.vm), jv_AOA (U := U.calling g mk a) (Vm.Alike.refl U.vm) h8, h9.imp (fun z => z.moved (U := U.calling g mk a) (Vm.Alike.refl U.vm)) (fun z => z.moved (U := U.calling g mk a) (Vm.Alike.refl U.vm))⟩
def jv_Pc (base : Nat) (D : va_G) (cA : Nat → ClassId) (adS ad : Nat → Nat) (As : List Value) (G : jv_Gr) (I : jv_I) (J : jv_J) : Array Value → State → Prop := fun v U =>
  v = (As.map (jv_v ad)).toArray ∧ base ≤ U.heap.size ∧ va_K D vwCl (jv_tys cA) U ∧ jv_env base adS U ∧ jv_gw G ∧ va_P D vwCl (jv_W cA ad G I J) U.heap ∧ va_D (fun q => base ≤ q) (jv_W cA ad G I J)
theorem jv_Pc.blind (base : Nat) (D : va_G) (cA : Nat → ClassId) (adS ad : Nat → Nat) (As : List Value) (G : jv_Gr) (I : jv_I) (J : jv_J) : FrameBlind (jv_Pc base D cA adS ad As G I J) := fun a U g mk h => by
  obtain ⟨h1, h2, h3, h4, h5, h6, h7⟩ := h
  exact ⟨h1, h2, va_K.moved (u := U) (U := U.calling g mk a) (Vm.Alike.refl U.vm) h3, h4.calling, h5, h6, h7⟩
abbrev jv_wM (M : jv_M) : List Cond := Cond.code M.1 M.2.1 M.2.2.1 M.2.2.2 :: lw_tg
/-- the contract: called with As in the heap G I J, depth d, the method returns r, the heap then being G' I' J' -/
def jv_C (d : Nat) (M : jv_M) (As : List Value) (G : jv_Gr) (I : jv_I) (J : jv_J) (r : Option Value) (G' : jv_Gr) (I' : jv_I) (J' : jv_J) : Prop :=
  (jv_n G ≤ jv_n G' ∧ jv_s G ≤ jv_s G') ∧ ∀ (l : Launch) (rm : Room) (base : Nat) (D : va_G) (cA : Nat → ClassId) (adS ad : Nat → Nat), d ≤ rm.frames → 40 * d ≤ rm.locals → rm.cells = jv_n G' - jv_n G → rm.slots = jv_s G' - jv_s G → (∀ k, ad (1000000 + k) = adS k) →
    Met l M.1 (jv_wM M) rm (jv_Pc base D cA adS ad As G I J) (jv_Q base D cA ad (jv_n G) r G' I' J') (jv_n G' - jv_n G) (jv_s G' - jv_s G) (fun q => base ≤ q)
theorem jv_C.mono {d d2 : Nat} {M : jv_M} {As : List Value} {G : jv_Gr} {I : jv_I} {J : jv_J} {r : Option Value} {G' : jv_Gr} {I' : jv_I} {J' : jv_J} (h : jv_C d M As G I J r G' I' J') (hd : d ≤ d2) : jv_C d2 M As G I J r G' I' J' :=
  ⟨h.1, fun l rm base D cA adS ad h1 h2 h3 h4 h5 => h.2 l rm base D cA adS ad (by omega) (by omega) h3 h4 h5⟩
theorem jv_C.eq {d : Nat} {M : jv_M} {As : List Value} {G : jv_Gr} {I : jv_I} {J : jv_J} {r r2 : Option Value} {G' : jv_Gr} {I' I2 : jv_I} {J' J2 : jv_J} (h : jv_C d M As G I J r G' I' J') (hr : r = r2) (hI : I' = I2) (hJ : J' = J2) : jv_C d M As G I J r2 G' I2 J2 := by
  subst hr; subst hI; subst hJ; exact h
def jv_la : List Value → List Value
  | [] => []
  | v :: vs => if v.category = 2 then v :: .null :: jv_la vs else v :: jv_la vs
theorem jv_la_in (ad : Nat → Nat) : ∀ (As : List Value) (i0 i : Nat) (v : Value), (jv_la As)[i]? = some v → v ≠ .null → (i0 + i, jv_v ad v) ∈ lv_args i0 (As.map (jv_v ad))
  | [], i0, i, v, h, _ => by simp [jv_la] at h
  | w :: As, i0, i, v, h, hv => by
    rw [List.map_cons, lv_args, jv_v_cat]
    unfold jv_la at h
    split at h
    · rename_i hc
      rw [if_pos hc]
      match i, h with
      | 0, h => cases h; exact List.mem_cons_self
      | 1, h => cases h; exact absurd rfl hv
      | i + 2, h =>
        have h2 := jv_la_in ad As (i0 + 2) i v h hv
        rw [show i0 + 2 + i = i0 + (i + 2) by omega] at h2
        exact List.mem_cons_of_mem _ h2
    · rename_i hc
      rw [if_neg hc]
      match i, h with
      | 0, h => cases h; exact List.mem_cons_self
      | i + 1, h =>
        have h2 := jv_la_in ad As (i0 + 1) i v h hv
        rw [show i0 + 1 + i = i0 + (i + 1) by omega] at h2
        exact List.mem_cons_of_mem _ h2
theorem jv_la_len (ad : Nat → Nat) : ∀ As : List Value, (lg_sl (As.map (jv_v ad))).length = (jv_la As).length
  | [] => rfl
  | w :: As => by
    have ih := jv_la_len ad As
    unfold lg_sl at ih ⊢
    rw [List.map_cons, List.flatMap_cons, List.length_append, ih]
    show _ = (if w.category = 2 then w :: .null :: jv_la As else w :: jv_la As).length
    rw [jv_v_cat]
    split <;> simp <;> omega
/-- what the tables say of a method: n parameters -/
def jv_ok (M : jv_M) (n : Nat) : Prop := Cond.code M.1 M.2.1 M.2.2.1 M.2.2.2 ∈ lw_tg ∧ Cond.initialized M.1.cls ∈ lw_tg ∧ (M.1.cls ≠ "java/lang/invoke/MethodHandle" ∧ M.1.cls ≠ "java/lang/invoke/VarHandle" ∧ (parseMethodDescriptor M.1.desc).map (fun d => d.parameters.length) = some n) ∧ plainName M.1.cls = true ∧ M.2.2.1 ≤ 20
theorem jv_enter {d n : Nat} {M : jv_M} {As L : List Value} {G : jv_Gr} {I : jv_I} {J : jv_J} {r : Option Value} {G' : jv_Gr} {I' : jv_I} {J' : jv_J} (hok : jv_ok M n) (hL : jv_la As ++ List.replicate (M.2.2.1 - (jv_la As).length) .null = L) (hle : (jv_la As).length ≤ M.2.2.1) (h : jv_V d M 0 L [] G I J r G' I' J') : jv_C d M As G I J r G' I' J' := by
  refine ⟨h.1, fun l rm base D cA adS ad hfr hlo hrc hrs had => ?_⟩
  refine Met.ofW (cc := M.2.1) (maxL := M.2.2.1) (ret := M.2.2.2) hok.2.2.2.1 rfl ?_
  intro p e s m args below meth c s₁ B hml hv
  obtain ⟨rfl, hbs, hK, hE, hgw, hP, hD⟩ := hv
  have hts := atoms_spec (ws := jv_wM M) B.pre
  have hl := lv_entry (As.map (jv_v ad)) (n := M.2.2.1) (by rw [jv_la_len]; exact hle)
  rw [lg_entry_eq]
  generalize (lg_sl (As.map (jv_v ad)) ++ List.replicate (M.2.2.1 - (lg_sl (As.map (jv_v ad))).length) Slot.unset).toArray = ls at hl ⊢
  refine h.2 p l e _ s m _ below meth c s.heap [] 0 0 ls ad base D cA adS _ _ ⟨B.exec, B.bytes, hml, B.returns, B.notSynchronized, (name_of_methodNamed B.named B.method).1, findClass_of_methodNamed B.named, fun w hw => hts w (List.mem_cons_of_mem _ hw), hbs, hK, hE⟩ ⟨had, hgw, hP, hD, va_S.rf⟩ ⟨?_, hl.1, hl.2.1, fun i v hi hv => ?_⟩ ⟨hfr, hlo, ?_, ?_, ?_, ?_⟩
  · rw [← hL, List.length_append, List.length_replicate]; omega
  · rw [← hL] at hi
    by_cases hi2 : i < (jv_la As).length
    · rw [List.getElem?_append_left hi2] at hi
      have h3 := jv_la_in ad As 0 i v hi hv
      rw [Nat.zero_add] at h3
      exact hl.2.2 _ h3
    · rw [List.getElem?_append_right (by omega)] at hi
      have h4 := List.mem_of_getElem? hi
      exact absurd (List.mem_replicate.mp h4).2 hv
  · exact Nat.le_of_eq hrc.symm
  · exact Nat.le_of_eq hrs.symm
  · have := h.1; omega
  · have := h.1; omega
theorem jv_Q_up {base : Nat} {D : va_G} {cA : Nat → ClassId} {ad ad1 : Nat → Nat} {n n1 : Nat} {r : Option Value} {G' : jv_Gr} {I' : jv_I} {J' : jv_J} (h : ∀ k, (k ≤ n ∨ jv_n G' < k) → ad1 k = ad k) (hn : n ≤ n1) (a : Array Value) (s : State) (o : Outcome) (t : State) (k : jv_Q base D cA ad1 n1 r G' I' J' a s o t) : jv_Q base D cA ad n r G' I' J' a s o t := by
  obtain ⟨⟨ad', h1, h2⟩, h3⟩ := k
  exact ⟨⟨ad', fun k hk => (h1 k (by omega)).trans (h k hk), h2⟩, h3⟩
/-- behind a call -/
theorem jv_back {d pc : Nat} {M : jv_M} {L rest : List Value} {G G1 G' : jv_Gr} {I I1 I' : jv_I} {J J1 J' : jv_J} {r rv : Option Value} (h : jv_V d M (pc + 3) L (rv.toList ++ rest) G1 I1 J1 r G' I' J') (hn : jv_n G ≤ jv_n G1 ∧ jv_s G ≤ jv_s G1) (hw : jv_n G1 = jv_n G ∨ (jv_ow (jv_n G) L ∧ jv_ow (jv_n G) rest ∧ jv_n G1 < 1000000))
    {p : Program} {l : Launch} {e : Env} {R : Room} {s : State} {m : MethodId} {args : Array Value} {below : List Frame} {meth : Method} {c : Code} {H : Heap} {locs : List Loc} {cells slots : Nat} {ls : Array Slot} {ad : Nat → Nat} {base : Nat} {D : va_G} {cA : Nat → ClassId} {adS : Nat → Nat} {mc ms : Nat} {st0 : List Value} {a : Array Value}
    (C : jv_Cx p s m args meth c M base D cA adS) (T1 : jv_Hp s H locs ad base D cA adS G I J) (T2 : jv_L ad ls M.2.2.1 L) (T3 : jv_Rm R cells slots mc ms d G G')
    (hr : va_Run p l e R s m args below meth c H locs cells slots (jv_n G1 - jv_n G) (jv_s G1 - jv_s G) (F0 m pc ls st0) (rest.map (jv_v ad)) (jv_Q base D cA ad (jv_n G) rv G1 I1 J1 a) (fun q => base ≤ q)) :
    W p l e R s m args below meth c H locs cells slots (MQ below (jv_Q base D cA ad (jv_n G) r G' I' J') args s mc ms (fun q => base ≤ q)) (F0 m pc ls st0) := by
  intro T hT X
  obtain ⟨v, st₀, t, T', Lc, h0, X', hL, e1, e2, ⟨⟨ad', hag, hgw, hv, hP, hD⟩, hF⟩, st⟩ := hr T hT X
  cases hv
  have hadr : ∀ q : Nat, (q ≤ jv_n G ∨ 1000000 ≤ q) → jv_n G1 = jv_n G ∨ jv_n G1 < 1000000 → ad' q = ad q := fun q hq hz => hag q (by omega)
  have hzz : jv_n G1 = jv_n G ∨ jv_n G1 < 1000000 := by
    rcases hw with h1 | ⟨-, -, h1⟩
    · exact Or.inl h1
    · exact Or.inr h1
  have hsame : ∀ vs : List Value, jv_n G1 = jv_n G ∨ jv_ow (jv_n G) vs → ∀ v ∈ vs, ∀ q : Nat, v = .ref q → ad' q = ad q := by
    intro vs hvs v hv q e
    rcases hvs with h1 | h1
    · exact hag q (by omega)
    · exact hadr q (h1 v hv q e) hzz
  have hL2 : jv_L ad' ls M.2.2.1 L := T2.ad (hsame L (hw.imp id (fun z => z.1)))
  have hS2 : rest.map (jv_v ad') = rest.map (jv_v ad) := jv_S_ad (hsame rest (hw.imp id (fun z => z.2.1)))
  obtain ⟨t1, t2, t3, t4, t5⟩ := T1
  obtain ⟨r1, r2, r3, r4, r5, r6⟩ := T3
  have hz := hF.1
  have hkp := hF.2
  rw [h0] at hz hkp
  have hkk := h.2 p l e R s m args below meth c T'.heap (locs ++ Lc) (cells + (jv_n G1 - jv_n G)) (slots + (jv_s G1 - jv_s G)) ls ad' base D cA adS mc ms C
    ⟨fun k => (hadr _ (Or.inr (by omega)) hzz).trans (t1 k), hgw, by rw [e1]; exact hP, hD, ⟨Nat.le_trans t5.1 (by rw [e1]; exact hz), fun q h1 h2 => by rw [e1, hkp q (Nat.lt_of_lt_of_le h1 t5.1) h2]; exact t5.2.1 q h1 h2, fun q hq => by
      rcases List.mem_append.mp hq with h | h
      · exact t5.2.2 q h
      · exact hL q h⟩⟩ hL2 ⟨r1, r2, r3, r4, by omega, by omega⟩
  have hkk2 := jv_W.mono (jv_MQ.mono (jv_Q_up (ad := ad) (n := jv_n G) (fun k hk => hag k (by have := h.1; omega)) hn.1)) hkk
  obtain ⟨t2, a1, b1⟩ := hkk2 T' rfl X'
  refine ⟨t2, st t2 ?_, b1⟩
  have hst : (rv.toList ++ rest).map (jv_v ad') = (rv.map (jv_v ad')).toList ++ rest.map (jv_v ad) := by
    rw [List.map_append, hS2]
    cases rv <;> rfl
  rw [hst] at a1
  exact a1
theorem jv_good {M : jv_M} {n : Nat} (h : jv_ok M n) : GoodIn lw_tg (jv_wM M) := fun w hw => by
  rcases List.mem_cons.mp hw with h1 | h1
  · rw [h1]; exact ⟨h.1, (lw_tg_good _ h.1).2⟩
  · exact ⟨h1, (lw_tg_good w h1).2⟩
section JVC
variable {d d2 pc idx n : Nat} {M M2 : jv_M} {L S As rest : List Value} {G G1 G' : jv_Gr} {I I1 I' : jv_I} {J J1 J' : jv_J} {r rv : Option Value}
theorem jv_pre {p : Program} {s : State} {m : MethodId} {args : Array Value} {meth : Method} {c : Code} {H : Heap} {locs : List Loc} {ad : Nat → Nat} {base : Nat} {D : va_G} {cA : Nat → ClassId} {adS : Nat → Nat} (C : jv_Cx p s m args meth c M base D cA adS) (T1 : jv_Hp s H locs ad base D cA adS G I J) : PreS s H (jv_Pc base D cA adS ad As G I J) (As.map (jv_v ad)) :=
  ⟨jv_Pc.blind _ _ _ _ _ _ _ _ _, fun U hU hW => ⟨rfl, by rw [hU]; exact Nat.le_trans C.2.2.2.2.2.2.2.2.1 T1.2.2.2.2.1, va_K.moved hW.alike C.2.2.2.2.2.2.2.2.2.1, C.2.2.2.2.2.2.2.2.2.2.to T1.2.2.2.2 hU hW, T1.2.1, by rw [hU]; exact T1.2.2.1, T1.2.2.2.1⟩⟩
/-- invokevirtual of a method of the receiver's own class -/
theorem jv_callV {a ci nn N : Nat} {T : u_T} (hd : decode M.2.1 pc = .ok (.invokevirtual idx, 3)) (hok : jv_ok M2 n) (hin : Cond.instanceMethod M2.1 ∈ lw_tg) (hse : Cond.selects M2.1.cls M2.1 M2.1 ∈ lw_tg) (hl : Cond.methodLink M.1.cls idx M2.1 ∈ lw_tg) (hcl : vwCl[ci]? = some (M2.1.cls, T, N)) (ha : jv_k G a = (ci + 10, nn)) (hC : jv_C d2 M2 (.ref a :: As) G I J rv G1 I1 J1) (hdd : d2 + 1 ≤ d) (hn : As.length = n) (hs : As.reverse ++ .ref a :: rest = S) (h8 : (rest.map fun v => v.category).sum ≤ 8) (hw : jv_n G1 = jv_n G ∨ (jv_ow (jv_n G) L ∧ jv_ow (jv_n G) rest ∧ jv_n G1 < 1000000))
    (h : jv_V d M (pc + 3) L (rv.toList ++ rest) G1 I1 J1 r G' I' J') : jv_V d M pc L S G I J r G' I' J' := by
  refine ⟨by have := h.1; have := hC.1; omega, fun p l e R s m args below meth c H locs cells slots ls ad base D cA adS mc ms C T1 T2 T3 => ?_⟩
  have hci : ci < 6 := (List.getElem?_eq_some_iff.mp hcl).1
  have hn0 := jv_k_in ha (by omega)
  have hts := C.2.2.2.2.2.2.2.1
  have hM := hC.2 l ({ frames := d2, cells := jv_n G1 - jv_n G, slots := jv_s G1 - jv_s G, locals := 40 * d2 }) base D cA adS ad (Nat.le_refl _) (Nat.le_refl _) rfl rfl T1.1
  have hmL := hok.2.2.2.2
  have cb := callB_of (own := M.1.cls) (index := idx) (rm := { frames := d2, cells := jv_n G1 - jv_n G, slots := jv_s G1 - jv_s G, locals := 40 * d2 }) (R := R) n hts (jv_good hok) rfl rfl rfl (hts _ hok.2.1) (hts _ hl) hok.2.2.1 ⟨by have := T3.1; show d2 + 1 ≤ R.frames; omega, by have := T3.2.1; show 8 + (M2.2.2.1 + 11) + 40 * d2 ≤ R.locals; omega⟩
  have he := jv_W_at (cA := cA) (ad := ad) (I := I) (J := J) hn0
  rw [jv_E_obj ha] at he
  have hpre := jv_pre (As := .ref a :: As) C T1
  rw [jv_mr hn0.1] at hpre
  refine jv_back h hC.1 hw C T1 T2 T3 (va_runV (As := As.map (jv_v ad)) (b := ad a) (Ts := lw_tg) ⟨C.1, C.2.1, C.2.2.1, C.2.2.2.2.2.2.1, hts⟩ hM ⟨cb, hts _ hin, hts _ hse⟩ ⟨hpre.1, va_recv C.2.2.2.2.2.2.2.2.2.1 T1.2.2.1 hcl he, hpre.2⟩ rfl (by rw [List.length_map]; exact hn) T2.2.1 ?_ ?_ hd ?_)
  · show S.map (jv_v ad) = _
    rw [← hs, List.map_append, jv_mr hn0.1, List.map_reverse]
  · exact lv_room (by rw [jv_cats]; exact h8)
  · obtain ⟨r1, r2, r3, r4, r5, r6⟩ := T3
    have := h.1
    have := hC.1
    omega
theorem jv_callS (hd : decode M.2.1 pc = .ok (.invokestatic idx, 3)) (hok : jv_ok M2 n) (hst : Cond.static M2.1 ∈ lw_tg) (hl : Cond.methodLink M.1.cls idx M2.1 ∈ lw_tg) (hC : jv_C d2 M2 As G I J rv G1 I1 J1) (hdd : d2 + 1 ≤ d) (hn : As.length = n) (hs : As.reverse ++ rest = S) (h8 : (rest.map fun v => v.category).sum ≤ 8) (hw : jv_n G1 = jv_n G ∨ (jv_ow (jv_n G) L ∧ jv_ow (jv_n G) rest ∧ jv_n G1 < 1000000))
    (h : jv_V d M (pc + 3) L (rv.toList ++ rest) G1 I1 J1 r G' I' J') : jv_V d M pc L S G I J r G' I' J' := by
  refine ⟨by have := h.1; have := hC.1; omega, fun p l e R s m args below meth c H locs cells slots ls ad base D cA adS mc ms C T1 T2 T3 => ?_⟩
  have hts := C.2.2.2.2.2.2.2.1
  have hM := hC.2 l ({ frames := d2, cells := jv_n G1 - jv_n G, slots := jv_s G1 - jv_s G, locals := 40 * d2 }) base D cA adS ad (Nat.le_refl _) (Nat.le_refl _) rfl rfl T1.1
  have hmL := hok.2.2.2.2
  have cb := callB_of (own := M.1.cls) (index := idx) (rm := { frames := d2, cells := jv_n G1 - jv_n G, slots := jv_s G1 - jv_s G, locals := 40 * d2 }) (R := R) n hts (jv_good hok) rfl rfl rfl (hts _ hok.2.1) (hts _ hl) hok.2.2.1 ⟨by have := T3.1; show d2 + 1 ≤ R.frames; omega, by have := T3.2.1; show 8 + (M2.2.2.1 + 11) + 40 * d2 ≤ R.locals; omega⟩
  have hpre := jv_pre (As := As) C T1
  refine jv_back h hC.1 hw C T1 T2 T3 (va_runS (As := As.map (jv_v ad)) (Ts := lw_tg) ⟨C.1, C.2.1, C.2.2.1, C.2.2.2.2.2.2.1, hts⟩ hM ⟨cb, hts _ hst⟩ hpre rfl (by rw [List.length_map]; exact hn) T2.2.1 ?_ ?_ hd ?_)
  · show S.map (jv_v ad) = _
    rw [← hs, List.map_append, List.map_reverse]
  · exact lv_room (by rw [jv_cats]; exact h8)
  · obtain ⟨r1, r2, r3, r4, r5, r6⟩ := T3
    have := h.1
    have := hC.1
    omega
/-- a static method of the nest's host -/
theorem jv_callSN {host : String} (hd : decode M.2.1 pc = .ok (.invokestatic idx, 3)) (hok : jv_ok M2 n) (hst : Cond.static M2.1 ∈ lw_tg) (hl : ∀ (base : Nat) (adS : Nat → Nat) (U : State), jv_env base adS U → va_Nw (.methodLinkNest M.1.cls idx M2.1 host) U) (hC : jv_C d2 M2 As G I J rv G1 I1 J1) (hdd : d2 + 1 ≤ d) (hn : As.length = n) (hs : As.reverse ++ rest = S) (h8 : (rest.map fun v => v.category).sum ≤ 8) (hw : jv_n G1 = jv_n G ∨ (jv_ow (jv_n G) L ∧ jv_ow (jv_n G) rest ∧ jv_n G1 < 1000000))
    (h : jv_V d M (pc + 3) L (rv.toList ++ rest) G1 I1 J1 r G' I' J') : jv_V d M pc L S G I J r G' I' J' := by
  refine ⟨by have := h.1; have := hC.1; omega, fun p l e R s m args below meth c H locs cells slots ls ad base D cA adS mc ms C T1 T2 T3 => ?_⟩
  have hts := C.2.2.2.2.2.2.2.1
  have hM := hC.2 l ({ frames := d2, cells := jv_n G1 - jv_n G, slots := jv_s G1 - jv_s G, locals := 40 * d2 }) base D cA adS ad (Nat.le_refl _) (Nat.le_refl _) rfl rfl T1.1
  have hmL := hok.2.2.2.2
  have cb := va_cnB (own := M.1.cls) (index := idx) (host := host) (rm := { frames := d2, cells := jv_n G1 - jv_n G, slots := jv_s G1 - jv_s G, locals := 40 * d2 }) (R := R) n hts (jv_good hok) rfl rfl rfl (hl _ _ _ C.2.2.2.2.2.2.2.2.2.2) (hts _ hok.2.1) hok.2.2.1 ⟨by have := T3.1; show d2 + 1 ≤ R.frames; omega, by have := T3.2.1; show 8 + (M2.2.2.1 + 11) + 40 * d2 ≤ R.locals; omega⟩
  have hpre := jv_pre (As := As) C T1
  refine jv_back h hC.1 hw C T1 T2 T3 (va_runSN (As := As.map (jv_v ad)) (Ts := lw_tg) ⟨C.1, C.2.1, C.2.2.1, C.2.2.2.2.2.2.1, hts⟩ hM ⟨cb, hts _ hst, trivial⟩ hpre rfl (by rw [List.length_map]; exact hn) T2.2.1 ?_ ?_ hd ?_)
  · show S.map (jv_v ad) = _
    rw [← hs, List.map_append, List.map_reverse]
  · exact lv_room (by rw [jv_cats]; exact h8)
  · obtain ⟨r1, r2, r3, r4, r5, r6⟩ := T3
    have := h.1
    have := hC.1
    omega
/-- a constructor -/
theorem jv_callI {a : Nat} (hd : decode M.2.1 pc = .ok (.invokespecial idx, 3)) (hok : jv_ok M2 n) (hret : M2.2.2.2 = none) (hnm : M2.1.name = "<init>") (hin : Cond.instanceMethod M2.1 ∈ lw_tg) (hl : Cond.methodLink M.1.cls idx M2.1 ∈ lw_tg) (ha : a ≠ 0) (hC : jv_C d2 M2 (.ref a :: As) G I J none G1 I1 J1) (hdd : d2 + 1 ≤ d) (hn : As.length = n) (hs : As.reverse ++ .ref a :: rest = S) (h8 : (rest.map fun v => v.category).sum ≤ 8) (hw : jv_n G1 = jv_n G ∨ (jv_ow (jv_n G) L ∧ jv_ow (jv_n G) rest ∧ jv_n G1 < 1000000))
    (h : jv_V d M (pc + 3) L rest G1 I1 J1 r G' I' J') : jv_V d M pc L S G I J r G' I' J' := by
  refine ⟨by have := h.1; have := hC.1; omega, fun p l e R s m args below meth c H locs cells slots ls ad base D cA adS mc ms C T1 T2 T3 => ?_⟩
  have hts := C.2.2.2.2.2.2.2.1
  have hM := hC.2 l ({ frames := d2, cells := jv_n G1 - jv_n G, slots := jv_s G1 - jv_s G, locals := 40 * d2 }) base D cA adS ad (Nat.le_refl _) (Nat.le_refl _) rfl rfl T1.1
  have hmL := hok.2.2.2.2
  have cb := callB_of (own := M.1.cls) (index := idx) (ret := none) (ws' := lw_tg) (rm := { frames := d2, cells := jv_n G1 - jv_n G, slots := jv_s G1 - jv_s G, locals := 40 * d2 }) (R := R) n hts (jv_good hok) (by rw [← hret]) rfl rfl (hts _ hok.2.1) (hts _ hl) hok.2.2.1 ⟨by have := T3.1; show d2 + 1 ≤ R.frames; omega, by have := T3.2.1; show 8 + (M2.2.2.1 + 11) + 40 * d2 ≤ R.locals; omega⟩
  have hpre := jv_pre (As := .ref a :: As) C T1
  rw [jv_mr ha] at hpre
  refine jv_back (rv := none) h hC.1 hw C T1 T2 T3 (va_runI (As := As.map (jv_v ad)) (b := ad a) (Ts := lw_tg) ⟨C.1, C.2.1, C.2.2.1, C.2.2.2.2.2.2.1, hts⟩ hM ⟨cb, hnm, hts _ hin⟩ hpre rfl (by rw [List.length_map]; exact hn) T2.2.1 ?_ ?_ hd ?_)
  · show S.map (jv_v ad) = _
    rw [← hs, List.map_append, jv_mr ha, List.map_reverse]
  · exact lv_room (by rw [jv_cats]; exact h8)
  · obtain ⟨r1, r2, r3, r4, r5, r6⟩ := T3
    have := h.1
    have := hC.1
    omega
/-- a nest mate's private constructor -/
theorem jv_callIN {a : Nat} {host : String} (hd : decode M.2.1 pc = .ok (.invokespecial idx, 3)) (hok : jv_ok M2 n) (hret : M2.2.2.2 = none) (hnm : M2.1.name = "<init>") (hin : Cond.instanceMethod M2.1 ∈ lw_tg) (hl : ∀ (base : Nat) (adS : Nat → Nat) (U : State), jv_env base adS U → va_Nw (.methodLinkNest M.1.cls idx M2.1 host) U) (ha : a ≠ 0) (hC : jv_C d2 M2 (.ref a :: As) G I J none G1 I1 J1) (hdd : d2 + 1 ≤ d) (hn : As.length = n) (hs : As.reverse ++ .ref a :: rest = S) (h8 : (rest.map fun v => v.category).sum ≤ 8) (hw : jv_n G1 = jv_n G ∨ (jv_ow (jv_n G) L ∧ jv_ow (jv_n G) rest ∧ jv_n G1 < 1000000))
    (h : jv_V d M (pc + 3) L rest G1 I1 J1 r G' I' J') : jv_V d M pc L S G I J r G' I' J' := by
  refine ⟨by have := h.1; have := hC.1; omega, fun p l e R s m args below meth c H locs cells slots ls ad base D cA adS mc ms C T1 T2 T3 => ?_⟩
  have hts := C.2.2.2.2.2.2.2.1
  have hM := hC.2 l ({ frames := d2, cells := jv_n G1 - jv_n G, slots := jv_s G1 - jv_s G, locals := 40 * d2 }) base D cA adS ad (Nat.le_refl _) (Nat.le_refl _) rfl rfl T1.1
  have hmL := hok.2.2.2.2
  have cb := va_cnB (own := M.1.cls) (index := idx) (host := host) (ret := none) (ws' := lw_tg) (rm := { frames := d2, cells := jv_n G1 - jv_n G, slots := jv_s G1 - jv_s G, locals := 40 * d2 }) (R := R) n hts (jv_good hok) (by rw [← hret]) rfl rfl (hl _ _ _ C.2.2.2.2.2.2.2.2.2.2) (hts _ hok.2.1) hok.2.2.1 ⟨by have := T3.1; show d2 + 1 ≤ R.frames; omega, by have := T3.2.1; show 8 + (M2.2.2.1 + 11) + 40 * d2 ≤ R.locals; omega⟩
  have hpre := jv_pre (As := .ref a :: As) C T1
  rw [jv_mr ha] at hpre
  refine jv_back (rv := none) h hC.1 hw C T1 T2 T3 (va_runIN (As := As.map (jv_v ad)) (b := ad a) (Ts := lw_tg) ⟨C.1, C.2.1, C.2.2.1, C.2.2.2.2.2.2.1, hts⟩ hM ⟨cb, hnm, hts _ hin⟩ hpre rfl (by rw [List.length_map]; exact hn) T2.2.1 ?_ ?_ hd ?_)
  · show S.map (jv_v ad) = _
    rw [← hs, List.map_append, jv_mr ha, List.map_reverse]
  · exact lv_room (by rw [jv_cats]; exact h8)
  · obtain ⟨r1, r2, r3, r4, r5, r6⟩ := T3
    have := h.1
    have := hC.1
    omega
theorem jv_ret {p : Program} {l : Launch} {e : Env} {R : Room} {s : State} {m : MethodId} {args : Array Value} {below : List Frame} {meth : Method} {c : Code} {H : Heap} {locs : List Loc} {cells slots : Nat} {ad : Nat → Nat} {base : Nat} {D : va_G} {cA : Nat → ClassId} {adS : Nat → Nat} {mc ms : Nat} {g : JFrame} (T1 : jv_Hp s H locs ad base D cA adS G I J) (T3 : jv_Rm R cells slots mc ms d G G)
    (hk : ∀ Qc : Array Value → State → Outcome → State → Prop, (∀ t : State, t.heap = H → Qc args s (.returned (rv.map (jv_v ad))) t) → (∀ q ∈ locs, base ≤ q.base) → W p l e R s m args below meth c H locs mc ms (MQ below Qc args s mc ms (fun q => base ≤ q)) g) :
    W p l e R s m args below meth c H locs cells slots (MQ below (jv_Q base D cA ad (jv_n G) rv G I J) args s mc ms (fun q => base ≤ q)) g := by
  obtain ⟨r1, r2, r3, r4, r5, r6⟩ := T3
  refine W.widen (k := mc) (n := ms) (by omega) (by omega) (hk _ (fun t ht => ⟨⟨ad, fun _ _ => rfl, T1.2.1, rfl, by rw [ht]; exact T1.2.2.1, T1.2.2.2.1⟩, T1.2.2.2.2.F ht⟩) T1.2.2.2.2.2.2)
theorem jv_iret {x : Int32} {ty : FieldType} {z : Int32} (hd : decode M.2.1 pc = .ok (.ireturn, 1)) (hr : M.2.2.2 = some ty) (hn : narrow ty (.int x) = .int x) (hx : x = z) (hI : I' = I) (hJ : J' = J) : jv_V d M pc L [.int x] G I J (some (.int z)) G I' J' := by
  subst hx; subst hI; subst hJ
  refine ⟨⟨Nat.le_refl _, Nat.le_refl _⟩, fun p l e R s m args below meth c H locs cells slots ls ad base D cA adS mc ms C T1 T2 T3 => ?_⟩
  exact jv_ret T1 T3 (fun Qc hq hf => W.zret C.1 C.2.1 (by rw [C.2.2.2.1]; exact hr) hn (fun t ht _ => hq t ht) hf hd C.2.2.2.2.1)
theorem jv_lret {x z : Int64} (hd : decode M.2.1 pc = .ok (.lreturn, 1)) (hr : M.2.2.2 = some .long) (hx : x = z) (hI : I' = I) (hJ : J' = J) : jv_V d M pc L [.long x] G I J (some (.long z)) G I' J' := by
  subst hx; subst hI; subst hJ
  refine ⟨⟨Nat.le_refl _, Nat.le_refl _⟩, fun p l e R s m args below meth c H locs cells slots ls ad base D cA adS mc ms C T1 T2 T3 => ?_⟩
  exact jv_ret T1 T3 (fun Qc hq hf => W.lret C.1 C.2.1 (by rw [C.2.2.2.1]; exact hr) (fun t ht _ => hq t ht) hf hd C.2.2.2.2.1)
theorem jv_vret (hd : decode M.2.1 pc = .ok (.return_, 1)) (hr : M.2.2.2 = none) (hG : G' = G) (hI : I' = I) (hJ : J' = J) : jv_V d M pc L [] G I J none G' I' J' := by
  subst hG; subst hI; subst hJ
  refine ⟨⟨Nat.le_refl _, Nat.le_refl _⟩, fun p l e R s m args below meth c H locs cells slots ls ad base D cA adS mc ms C T1 T2 T3 => ?_⟩
  exact jv_ret T1 T3 (fun Qc hq hf => W.vret C.1 C.2.1 (by rw [C.2.2.2.1]; exact hr) (fun t ht _ => hq t ht) hf hd C.2.2.2.2.1)
theorem jv_aret {x : Nat} {cn : String} (hd : decode M.2.1 pc = .ok (.areturn, 1)) (hr : M.2.2.2 = some (.object cn)) (hG : G' = G) (hI : I' = I) (hJ : J' = J) : jv_V d M pc L [.ref x] G I J (some (.ref x)) G' I' J' := by
  subst hG; subst hI; subst hJ
  refine ⟨⟨Nat.le_refl _, Nat.le_refl _⟩, fun p l e R s m args below meth c H locs cells slots ls ad base D cA adS mc ms C T1 T2 T3 => ?_⟩
  have hv : jv_v ad (.ref x) = .null ∨ ∃ a, jv_v ad (.ref x) = .ref a := by
    by_cases hz : x = 0
    · subst hz; exact Or.inl rfl
    · exact Or.inr ⟨_, jv_v_ref ad hz⟩
  exact jv_ret T1 T3 (fun Qc hq hf => W.aret C.1 C.2.1 (by rw [C.2.2.2.1]; exact hr) (Or.inl ⟨_, rfl⟩) hv (fun t ht _ => hq t ht) hf hd C.2.2.2.2.1)
end JVC
