/-! ===== new long[8][40] ===== -/
def jv_g8 (G : jv_Gr) : jv_Gr := (G.1 + 9, G.2.1 + 328, fun a => if a = G.1 + 1 then (3, 8) else if G.1 + 1 < a then (1, 40) else G.2.2.1 a, fun a j => if a = G.1 + 1 then (if j < 8 then G.1 + 2 + j else 0) else if G.1 + 1 < a then 0 else G.2.2.2 a j)
def jv_zA (J : jv_J) (n : Nat) : jv_J := fun b j => if n < b then 0 else J b j
theorem jv_g8_k_old {G : jv_Gr} {b : Nat} (h : b ≤ jv_n G) : jv_k (jv_g8 G) b = jv_k G b := by
  have h' : b ≤ G.1 := h
  unfold jv_k jv_g8
  by_cases h0 : b = 0
  · simp [h0]
  · rw [if_neg (by show ¬ (b = 0 ∨ G.1 + 9 < b); omega), if_neg (by omega)]
    show (if b = G.1 + 1 then (3, 8) else if G.1 + 1 < b then (1, 40) else G.2.2.1 b) = _
    rw [if_neg (by omega), if_neg (by omega)]
theorem jv_g8_k_out {G : jv_Gr} : jv_k (jv_g8 G) (jv_n G + 1) = (3, 8) := by
  unfold jv_k jv_g8 jv_n
  rw [if_neg (by show ¬ (G.1 + 1 = 0 ∨ G.1 + 9 < G.1 + 1); omega)]
  exact if_pos rfl
theorem jv_g8_k_in {G : jv_Gr} {j : Nat} (hj : j < 8) : jv_k (jv_g8 G) (jv_n G + 2 + j) = (1, 40) := by
  unfold jv_k jv_g8 jv_n
  rw [if_neg (by show ¬ (G.1 + 2 + j = 0 ∨ G.1 + 9 < G.1 + 2 + j); omega)]
  show (if G.1 + 2 + j = G.1 + 1 then (3, 8) else if G.1 + 1 < G.1 + 2 + j then (1, 40) else G.2.2.1 _) = _
  rw [if_neg (by omega), if_pos (by omega)]
theorem jv_g8_r_old {G : jv_Gr} {b j : Nat} (h : b ≤ jv_n G) : jv_r (jv_g8 G) b j = jv_r G b j := by
  have h' : b ≤ G.1 := h
  show (if b = G.1 + 1 then (if j < 8 then G.1 + 2 + j else 0) else if G.1 + 1 < b then 0 else G.2.2.2 b j) = G.2.2.2 b j
  rw [if_neg (by omega), if_neg (by omega)]
theorem jv_g8_r_out {G : jv_Gr} {j : Nat} (hj : j < 8) : jv_r (jv_g8 G) (jv_n G + 1) j = jv_n G + 2 + j := by
  show (if G.1 + 1 = G.1 + 1 then (if j < 8 then G.1 + 2 + j else 0) else _) = G.1 + 2 + j
  rw [if_pos rfl, if_pos hj]
theorem jv_g8_r_out2 {G : jv_Gr} {j : Nat} (hj : ¬ j < 8) : jv_r (jv_g8 G) (jv_n G + 1) j = 0 := by
  show (if G.1 + 1 = G.1 + 1 then (if j < 8 then G.1 + 2 + j else 0) else _) = 0
  rw [if_pos rfl, if_neg hj]
theorem jv_g8_gw {G : jv_Gr} (h : jv_gw G) : jv_gw (jv_g8 G) := by
  intro b j hb
  have hn : jv_n (jv_g8 G) = jv_n G + 9 := rfl
  rw [hn] at hb ⊢
  by_cases h1 : b ≤ jv_n G
  · rw [jv_g8_r_old h1]
    have := h b j h1
    omega
  · by_cases h2 : b = jv_n G + 1
    · rw [h2]
      by_cases hj : j < 8
      · rw [jv_g8_r_out hj]; omega
      · rw [jv_g8_r_out2 hj]; omega
    · show (if b = G.1 + 1 then (if j < 8 then G.1 + 2 + j else 0) else if G.1 + 1 < b then 0 else G.2.2.2 b j) ≤ _
      have h1' : ¬ b ≤ G.1 := h1
      have h2' : ¬ b = G.1 + 1 := h2
      rw [if_neg h2', if_pos (by omega)]
      omega
theorem jv_g8_E {cA : Nat → ClassId} {ad ad2 : Nat → Nat} {G : jv_Gr} {I : jv_I} {J : jv_J} {b : Nat} (hg : jv_gw G) (had : ∀ b, b ≤ jv_n G → ad2 b = ad b) (h : b ≤ jv_n G) : jv_E cA ad2 (jv_g8 G) I (jv_zA J (jv_n G)) b = jv_E cA ad G I J b := by
  have hr : ∀ j, jv_r (jv_g8 G) b j = jv_r G b j := fun j => jv_g8_r_old h
  have ho : ∀ j, jv_o ad2 (jv_r G b j) = jv_o ad (jv_r G b j) := fun j => jv_o_eq (had _ (hg b j h))
  have hJ : jv_zA J (jv_n G) b = J b := by
    funext j
    show (if jv_n G < b then 0 else J b j) = J b j
    exact if_neg (by omega)
  have hf : jv_fs ad2 (jv_g8 G) I ((jv_k G b).1 - 10) b = jv_fs ad G I ((jv_k G b).1 - 10) b := by
    unfold jv_fs
    apply List.map_congr_left
    intro k _
    unfold jv_f
    rw [hr, ho]
  unfold jv_E
  rw [jv_g8_k_old h, hf, hJ]
  simp only [hr, ho]
theorem jv_outer (c : ClassId) (N h0 : Nat) : ∀ i : Nat, Jvm.Free.Multi.outerC c N h0 i = arrV c N (fun j => va_rf (if j < i then some (h0 + 1 + j) else none))
  | 0 => by
    show ({ cls := c, slots := Array.replicate N .null, vm := .none } : Cell) = _
    rw [arrV_new]
    refine congrArg (arrV c N) (funext fun j => ?_)
    simp [va_rf]
  | i + 1 => by
    show (Jvm.Free.Multi.outerC c N h0 i).setSlot i (.ref (h0 + 1 + i)) = _
    rw [jv_outer c N h0 i, arrV_store]
    refine congrArg (arrV c N) (funext fun j => ?_)
    by_cases e : j = i
    · subst e
      simp [updV, va_rf]
    · by_cases h : j < i
      · simp [updV, e, h, Nat.lt_succ_of_lt h]
      · simp [updV, e, h, show ¬ j < i + 1 by omega]
section JVG
variable {d pc idx : Nat} {M : jv_M} {L S : List Value} {G G' : jv_Gr} {I I' : jv_I} {J J' : jv_J} {r : Option Value}
theorem jv_grid (hd : decode M.2.1 pc = .ok (.multianewarray idx 2, 4)) (hl : Cond.classLink M.1.cls idx "[[J" ∈ lw_tg) (har : Cond.arrayClass .long ∈ lw_tg) (hlt : jv_n G + 9 < 1000000) (hoL : jv_ow (jv_n G) L) (hoS : jv_ow (jv_n G) S) (h : jv_V d M (pc + 4) L (.ref (jv_n G + 1) :: S) (jv_g8 G) I (jv_zA J (jv_n G)) r G' I' J') : jv_V d M pc L (.int (nI 40) :: .int (nI 8) :: S) G I J r G' I' J' := by
  have hm := h.1
  have hn1 : jv_n (jv_g8 G) = jv_n G + 9 := rfl
  have hs1 : jv_s (jv_g8 G) = jv_s G + 328 := rfl
  refine ⟨by omega, fun p l e R s m args below meth c H locs cells slots ls ad base D cA adS mc ms C T1 T2 T3 => ?_⟩
  have hts := C.2.2.2.2.2.2.2.1
  have hK := C.2.2.2.2.2.2.2.2.2.1
  have hE := C.2.2.2.2.2.2.2.2.2.2
  obtain ⟨r1, r2, r3, r4, r5, r6⟩ := T3
  obtain ⟨t1, t2, t3, t4, t5⟩ := T1
  intro T hT X
  have hover : (Cond.arrayOver (.array .long)).before args s = true := hE.2.2.2.2.2.2.2.1
  have c8 : (nI 8).toNatClampNeg = 8 := nI_clamp (by omega)
  have c40 : (nI 40).toNatClampNeg = 40 := nI_clamp (by omega)
  obtain ⟨vm₁, cA', comp, -, fA, fC, hO, hIn, X', step⟩ := X.multianewarray2F C.1 (own := M.1.cls) (index := idx) (ty := .long) C.2.2.2.2.2.2.1 (hts _ hl) hover (hts _ har) (g := F0 m pc ls (.int (nI 40) :: .int (nI 8) :: S.map (jv_v ad))) rfl (by rw [C.2.1]; exact hd) rfl (nI_pos (by omega)) (nI_pos (by omega)) (by rw [c8]; omega) (by rw [c40]; show 40 * 8 ≤ _; omega) (by rw [c40]; omega) rfl rfl (by rw [c8]; omega) (by rw [c8, c40]; omega)
  rw [c8, c40] at X' step
  have e1 : cA' = cA 3 := Option.some.inj (Eq.trans (Eq.symm fA) (hK.2 3 (cA 3, .array .long) rfl).2)
  have e2 : comp = cA 1 := Option.some.inj (Eq.trans (Eq.symm fC) (hK.2 1 (cA 1, .long) rfl).2)
  subst e1
  subst e2
  obtain ⟨f1, f2, -, -⟩ := Jvm.Free.Multi.fill_facts (T.setVm vm₁) (cA 3) (cA 1) 8 40 (defaultValue .long) 8
  have hold := fun x hx => Jvm.Free.Multi.fill_old (T.setVm vm₁) (cA 3) (cA 1) 8 40 (defaultValue .long) (a := x) hx 8
  have hrow := fun j hj => Jvm.Free.Multi.fill_inner (T.setVm vm₁) (cA 3) (cA 1) 8 40 (defaultValue .long) 8 j hj
  generalize hF : Jvm.Free.Multi.fill (T.setVm vm₁) (cA 3) (cA 1) 8 40 (defaultValue .long) 8 = F at X' step f1 f2 hold hrow
  have hTh : (T.setVm vm₁).heap = H := hT
  rw [hTh] at f1 f2 hold hrow
  rw [jv_outer] at f2
  obtain ⟨ad2, had2⟩ : ∃ f : Nat → Nat, f = fun k => if jv_n G < k ∧ k ≤ jv_n G + 9 then H.size + (k - (jv_n G + 1)) else ad k := ⟨_, rfl⟩
  have ad2_old : ∀ k, (k ≤ jv_n G ∨ jv_n G + 9 < k) → ad2 k = ad k := fun k hk => by rw [had2]; exact if_neg (by omega)
  have ad2_new : ∀ j, j < 9 → ad2 (jv_n G + 1 + j) = H.size + j := fun j hj => by
    rw [had2]
    show (if jv_n G < jv_n G + 1 + j ∧ jv_n G + 1 + j ≤ jv_n G + 9 then H.size + (jv_n G + 1 + j - (jv_n G + 1)) else ad (jv_n G + 1 + j)) = _
    rw [if_pos ⟨by omega, by omega⟩]
    omega
  have hsplit : ∀ (k : Nat) (q : Nat × va_E), (jv_W cA ad2 (jv_g8 G) I (jv_zA J (jv_n G)))[k]? = some q → (k < jv_n G ∧ (jv_W cA ad G I J)[k]? = some q) ∨ (∃ j, j < 9 ∧ k = jv_n G + j ∧ q = (H.size + j, jv_E cA ad2 (jv_g8 G) I (jv_zA J (jv_n G)) (jv_n G + 1 + j))) := by
    intro k q hk
    have hkl : k < jv_n G + 9 := by
      have := (List.getElem?_eq_some_iff.mp hk).1
      rw [jv_W_len, hn1] at this
      exact this
    have e := jv_W_at (cA := cA) (ad := ad2) (G := jv_g8 G) (I := I) (J := jv_zA J (jv_n G)) (a := k + 1) ⟨by omega, by rw [hn1]; omega⟩
    rw [Nat.add_sub_cancel, hk] at e
    by_cases hkn : k < jv_n G
    · refine Or.inl ⟨hkn, ?_⟩
      have e' := jv_W_at (cA := cA) (ad := ad) (G := G) (I := I) (J := J) (a := k + 1) ⟨by omega, by omega⟩
      rw [Nat.add_sub_cancel] at e'
      rw [e', e, ad2_old _ (Or.inl (by omega)), jv_g8_E t2 (fun b hb => ad2_old b (Or.inl hb)) (by omega)]
    · refine Or.inr ⟨k - jv_n G, by omega, by omega, ?_⟩
      have e3 : k + 1 = jv_n G + 1 + (k - jv_n G) := by omega
      rw [e3, ad2_new _ (by omega)] at e
      exact Option.some.inj e
  have hlt0 : ∀ (k : Nat) (q : Nat × va_E), (jv_W cA ad G I J)[k]? = some q → q.1 < H.size := fun k q hk => (t3 k q hk).lt
  have hP2 : va_P D vwCl (jv_W cA ad2 (jv_g8 G) I (jv_zA J (jv_n G))) F.heap := by
    intro k q hk
    rcases hsplit k q hk with ⟨-, h1⟩ | ⟨j, hj, -, rfl⟩
    · exact (t3 k q h1).kept (hold q.1 (hlt0 k q h1))
    · by_cases hj0 : j = 0
      · subst hj0
        rw [Nat.add_zero, Nat.add_zero, jv_E_3 (G := jv_g8 G) jv_g8_k_out]
        show F.heap[H.size]? = some (vp_cell _ _)
        rw [f2, vp_cell_q]
        congr 2
        funext i
        by_cases hi : i < 8
        · rw [if_pos hi, jv_g8_r_out hi]
          unfold jv_o
          rw [if_neg (by omega), show jv_n G + 2 + i = jv_n G + 1 + (1 + i) by omega, ad2_new _ (by omega)]
          congr 2
          omega
        · rw [if_neg hi, jv_g8_r_out2 hi]; rfl
      · rw [show jv_n G + 1 + j = jv_n G + 2 + (j - 1) by omega, jv_E_1 (G := jv_g8 G) (jv_g8_k_in (by omega))]
        show F.heap[H.size + j]? = some (vp_cell _ _)
        have := hrow (j - 1) (by omega)
        rw [show H.size + 1 + (j - 1) = H.size + j by omega] at this
        rw [this, vp_cell_l]
        show some ({ cls := cA 1, slots := Array.replicate 40 (defaultValue .long), vm := .none } : Cell) = _
        rw [arrV_new]
        congr 2
        funext i
        show Value.long 0 = .long (if jv_n G < jv_n G + 2 + (j - 1) then 0 else J _ i)
        rw [if_pos (by omega)]
  have hD2 : va_D (fun q => base ≤ q) (jv_W cA ad2 (jv_g8 G) I (jv_zA J (jv_n G))) := by
    refine ⟨fun i j x y hi hj hxy => ?_, fun k q hk => ?_⟩
    · rcases hsplit i x hi with ⟨a1, a2⟩ | ⟨u, hu, rfl, rfl⟩ <;> rcases hsplit j y hj with ⟨b1, b2⟩ | ⟨w, hw, rfl, rfl⟩
      · exact t4.1 i j x y a2 b2 hxy
      · have := hlt0 i x a2
        have hxy' : x.1 = H.size + w := hxy
        omega
      · have := hlt0 j y b2
        have hxy' : H.size + u = y.1 := hxy
        omega
      · have hxy' : H.size + u = H.size + w := hxy
        omega
    · rcases hsplit k q hk with ⟨-, a2⟩ | ⟨u, hu, rfl, rfl⟩
      · exact t4.2 k q a2
      · show base ≤ H.size + u
        have := C.2.2.2.2.2.2.2.2.1
        have := t5.1
        omega
  have hS2 : va_S (fun q => base ≤ q) s.heap F.heap locs := ⟨by rw [f1]; have := t5.1; omega, fun q h1 h2 => (hold q (Nat.lt_of_lt_of_le h1 t5.1)).trans (t5.2.1 q h1 h2), t5.2.2⟩
  have hag : ∀ (vs : List Value), jv_ow (jv_n G) vs → ∀ v ∈ vs, ∀ q : Nat, v = .ref q → ad2 q = ad q := fun vs hvs v hv q e => ad2_old q (by have := hvs v hv q e; omega)
  have hk := h.2 p l e R s m args below meth c F.heap locs (cells + 1 + 8) (slots + 8 + 8 * 40) ls ad2 base D cA adS mc ms C ⟨fun j => (ad2_old _ (Or.inr (by omega))).trans (t1 j), jv_g8_gw t2, hP2, hD2, hS2⟩ (T2.ad (hag L hoL)) ⟨r1, r2, r3, r4, by rw [hn1]; omega, by rw [hs1]; omega⟩
  have hq1 : ad2 (jv_n G + 1) = H.size := ad2_new 0 (by omega)
  rw [jv_mr (by omega), hq1, jv_S_ad (hag S hoS)] at hk
  have hk2 := jv_W.mono (jv_MQ.mono (jv_Q_up (ad := ad) (n := jv_n G) (fun b hb => ad2_old b (by omega)) (by rw [hn1]; omega))) hk
  obtain ⟨t, a1, b1⟩ := hk2 F rfl X'
  refine ⟨t, step t ?_, b1⟩
  have e9 : T.heap.size = H.size := by rw [hT]
  rw [e9]
  exact a1
end JVG
