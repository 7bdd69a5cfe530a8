/-! ===== texts: length() and charAt(k) of the constants ===== -/
section JVT
variable {d pc idx : Nat} {M : jv_M} {L S : List Value} {G G' : jv_Gr} {I I' : jv_I} {J J' : jv_J} {r : Option Value}
theorem jv_ldcS {k : Nat} {tx : String} (hd : decode M.2.1 pc = .ok (.ldc idx, 2)) (hm : (M.1.cls, idx, tx, k) ∈ jv_strs) (h : jv_V d M (pc + 2) L (.ref (1000000 + k) :: S) G I J r G' I' J') : jv_V d M pc L S G I J r G' I' J' := by
  refine ⟨h.1, fun p l e R s m args below meth c H locs cells slots ls ad base D cA adS mc ms C T1 T2 T3 => ?_⟩
  have hk := h.2 p l e R s m args below meth c H locs cells slots ls ad base D cA adS mc ms C T1 T2 T3
  have hE := C.2.2.2.2.2.2.2.2.2.2
  rw [jv_mr (by omega), T1.1 k] at hk
  exact va_ldcS C.1 C.2.1 (own := M.1.cls) C.2.2.2.2.2.2.1 (hE.2.2.2.2.1 _ hm) hd hk
theorem jv_compact (hd : decode M.2.1 pc = .ok (.getstatic idx, 3)) (hl : Cond.fieldLink M.1.cls idx RJ0 "COMPACT_STRINGS" "Z" ∈ lw_tg) (h : jv_V d M (pc + 3) L (.int 1 :: S) G I J r G' I' J') : jv_V d M pc L S G I J r G' I' J' := by
  refine ⟨h.1, fun p l e R s m args below meth c H locs cells slots ls ad base D cA adS mc ms C T1 T2 T3 => ?_⟩
  have hk := h.2 p l e R s m args below meth c H locs cells slots ls ad base D cA adS mc ms C T1 T2 T3
  have hE := C.2.2.2.2.2.2.2.2.2.2
  exact va_gets C.1 C.2.1 (own := M.1.cls) (ref := RJ0) hE.2.2.1 T1.2.2.2.2 C.2.2.2.2.2.2.1 (C.2.2.2.2.2.2.2.1 _ hl) (fun _ q => q) hd hk
theorem jv_sio (hd : decode M.2.1 pc = .ok (.getstatic idx, 3)) (hl : Cond.fieldLink M.1.cls idx RJ3 "SIOOBE_FORMATTER" "Ljava/util/function/BiFunction;" ∈ lw_tg) (h : ∀ q, jv_V d M (pc + 3) L (.ref q :: S) G I J r G' I' J') : jv_V d M pc L S G I J r G' I' J' := by
  refine ⟨(h 0).1, fun p l e R s m args below meth c H locs cells slots ls ad base D cA adS mc ms C T1 T2 T3 => ?_⟩
  have hE := C.2.2.2.2.2.2.2.2.2.2
  rcases hE.2.2.2.2.2.2.2.2 with hz | hz
  · have hk := (h 0).2 p l e R s m args below meth c H locs cells slots ls ad base D cA adS mc ms C T1 T2 T3
    exact va_gets C.1 C.2.1 (own := M.1.cls) (ref := RJ3) hz T1.2.2.2.2 C.2.2.2.2.2.2.1 (C.2.2.2.2.2.2.2.1 _ hl) (fun _ q => q) hd hk
  · have hk := (h (1000000 + 300)).2 p l e R s m args below meth c H locs cells slots ls ad base D cA adS mc ms C T1 T2 T3
    rw [jv_mr (by omega), T1.1 300] at hk
    exact va_gets C.1 C.2.1 (own := M.1.cls) (ref := RJ3) hz T1.2.2.2.2 C.2.2.2.2.2.2.1 (C.2.2.2.2.2.2.2.1 _ hl) (fun _ q => q) hd hk
theorem jv_coder {k : Nat} (hk6 : k < 6) (hd : decode M.2.1 pc = .ok (.getfield idx, 3)) (hl : Cond.fieldLink M.1.cls idx RJ0 "coder" "B" ∈ lw_tg) (h : jv_V d M (pc + 3) L (.int 0 :: S) G I J r G' I' J') : jv_V d M pc L (.ref (1000000 + k) :: S) G I J r G' I' J' := by
  refine ⟨h.1, fun p l e R s m args below meth c H locs cells slots ls ad base D cA adS mc ms C T1 T2 T3 => ?_⟩
  have hk := h.2 p l e R s m args below meth c H locs cells slots ls ad base D cA adS mc ms C T1 T2 T3
  have hE := C.2.2.2.2.2.2.2.2.2.2
  rw [jv_mr (by omega), T1.1 k]
  exact vk_getf C.1 C.2.1 (own := M.1.cls) (ref := RJ0) (hE.2.2.2.1.1 k hk6).2.1 T1.2.2.2.2 C.2.2.2.2.2.2.1 (C.2.2.2.2.2.2.2.1 _ hl) (fun _ q => q) hd hk
theorem jv_value {k : Nat} (hk6 : k < 6) (hd : decode M.2.1 pc = .ok (.getfield idx, 3)) (hl : Cond.fieldLink M.1.cls idx RJ0 "value" "[B" ∈ lw_tg) (h : jv_V d M (pc + 3) L (.ref (1000000 + (200 + k)) :: S) G I J r G' I' J') : jv_V d M pc L (.ref (1000000 + k) :: S) G I J r G' I' J' := by
  refine ⟨h.1, fun p l e R s m args below meth c H locs cells slots ls ad base D cA adS mc ms C T1 T2 T3 => ?_⟩
  have hk := h.2 p l e R s m args below meth c H locs cells slots ls ad base D cA adS mc ms C T1 T2 T3
  have hE := C.2.2.2.2.2.2.2.2.2.2
  rw [jv_mr (by omega), T1.1 (200 + k)] at hk
  rw [jv_mr (by omega), T1.1 k]
  exact vk_getf C.1 C.2.1 (own := M.1.cls) (ref := RJ0) (hE.2.2.2.1.1 k hk6).2.2.1 T1.2.2.2.2 C.2.2.2.2.2.2.1 (C.2.2.2.2.2.2.2.1 _ hl) (fun _ q => q) hd hk
theorem jv_balen {k : Nat} (hk6 : k < 6) (hd : decode M.2.1 pc = .ok (.arraylength, 1)) (h : jv_V d M (pc + 1) L (.int (nI (jv_len.getD k 0)) :: S) G I J r G' I' J') : jv_V d M pc L (.ref (1000000 + (200 + k)) :: S) G I J r G' I' J' := by
  refine ⟨h.1, fun p l e R s m args below meth c H locs cells slots ls ad base D cA adS mc ms C T1 T2 T3 => ?_⟩
  have hk := h.2 p l e R s m args below meth c H locs cells slots ls ad base D cA adS mc ms C T1 T2 T3
  have hE := C.2.2.2.2.2.2.2.2.2.2
  rw [jv_mr (by omega), T1.1 (200 + k)]
  exact va_tlen C.1 C.2.1 (hE.2.2.2.1.1 k hk6).2.2.2 T1.2.2.2.2 rfl hd hk
theorem jv_baload {k i : Nat} (hk6 : k < 6) (hi : i < jv_len.getD k 0) (hlt : jv_len.getD k 0 < 2 ^ 31) (hd : decode M.2.1 pc = .ok (.baload, 1)) (h : jv_V d M (pc + 1) L (.int ((jv_byt.getD k []).getD i 0) :: S) G I J r G' I' J') : jv_V d M pc L (.int (nI i) :: .ref (1000000 + (200 + k)) :: S) G I J r G' I' J' := by
  refine ⟨h.1, fun p l e R s m args below meth c H locs cells slots ls ad base D cA adS mc ms C T1 T2 T3 => ?_⟩
  have hk := h.2 p l e R s m args below meth c H locs cells slots ls ad base D cA adS mc ms C T1 T2 T3
  have hE := C.2.2.2.2.2.2.2.2.2.2
  rw [List.map_cons, jv_mr (by omega), T1.1 (200 + k)]
  exact va_tb C.1 C.2.1 (hE.2.2.2.1.1 k hk6).2.2.2 T1.2.2.2.2 (vp_in_nI hi hlt) (v := .int ((jv_byt.getD k []).getD i 0)) (by rw [nI_clamp (by omega)]) hd hk
theorem jv_i2c {x v : Int32} (hd : decode M.2.1 pc = .ok (.i2c, 1)) (hv : (x.toUInt32 % 65536).toInt32 = v) (h : jv_V d M (pc + 1) L (.int v :: S) G I J r G' I' J') : jv_V d M pc L (.int x :: S) G I J r G' I' J' := ⟨h.1, fun p l e R s m args below meth c H locs cells slots ls ad base D cA adS mc ms C T1 T2 T3 => lv_i2c C.1 C.2.1 hd hv (h.2 p l e R s m args below meth c H locs cells slots ls ad base D cA adS mc ms C T1 T2 T3)⟩
/-- a call on a text -/
theorem jv_callT {d2 n k : Nat} {M2 : jv_M} {As rest : List Value} {I1 : jv_I} {J1 : jv_J} {w : Value} (hk6 : k < 6) (hd : decode M.2.1 pc = .ok (.invokevirtual idx, 3)) (hok : jv_ok M2 n) (hcn : M2.1.cls = "java/lang/String") (hin : Cond.instanceMethod M2.1 ∈ lw_tg) (hse : Cond.selects M2.1.cls M2.1 M2.1 ∈ lw_tg) (hl : Cond.methodLink M.1.cls idx M2.1 ∈ lw_tg) (hC : jv_C d2 M2 (.ref (1000000 + k) :: As) G I J (some w) G I1 J1) (hdd : d2 + 1 ≤ d) (hn : As.length = n) (hs : As.reverse ++ .ref (1000000 + k) :: rest = S) (h8 : (rest.map fun v => v.category).sum ≤ 8)
    (h : jv_V d M (pc + 3) L (w :: rest) G I1 J1 r G' I' J') : jv_V d M pc L S G I J r G' I' J' := by
  refine ⟨by have := h.1; have := hC.1; omega, fun p l e R s m args below meth c H locs cells slots ls ad base D cA adS mc ms C T1 T2 T3 => ?_⟩
  have hn0 : (1000000 + k) ≠ 0 := by omega
  have hts := C.2.2.2.2.2.2.2.1
  have hE := C.2.2.2.2.2.2.2.2.2.2
  have hM := hC.2 l ({ frames := d2, cells := jv_n G - jv_n G, slots := jv_s G - jv_s G, locals := 40 * d2 }) base D cA adS ad (Nat.le_refl _) (Nat.le_refl _) rfl rfl T1.1
  have hmL := hok.2.2.2.2
  have cb := callB_of (own := M.1.cls) (index := idx) (rm := { frames := d2, cells := jv_n G - jv_n G, slots := jv_s G - jv_s G, locals := 40 * d2 }) (R := R) n hts (jv_good hok) rfl rfl rfl (hts _ hok.2.1) (hts _ hl) hok.2.2.1 ⟨by have := T3.1; show d2 + 1 ≤ R.frames; omega, by have := T3.2.1; show 8 + (M2.2.2.1 + 11) + 40 * d2 ≤ R.locals; omega⟩
  have hpre := jv_pre (As := .ref (1000000 + k) :: As) C T1
  have hrc := vk_recv hE.2.2.2.1 hk6 T1.2.2.2.2
  rw [← T1.1 k] at hrc
  rw [jv_mr hn0] at hpre
  refine jv_back (rv := some w) h hC.1 (Or.inl rfl) C T1 T2 T3 (va_runV (C := M2.1.cls) (As := As.map (jv_v ad)) (b := ad (1000000 + k)) (Ts := lw_tg) ⟨C.1, C.2.1, C.2.2.1, C.2.2.2.2.2.2.1, hts⟩ hM ⟨cb, hts _ hin, hts _ hse⟩ ⟨hpre.1, by rw [hcn]; exact hrc, hpre.2⟩ rfl (by rw [List.length_map]; exact hn) T2.2.1 ?_ ?_ hd ?_)
  · show S.map (jv_v ad) = _
    rw [← hs, List.map_append, jv_mr hn0, List.map_reverse]
  · exact lv_room (by rw [jv_cats]; exact h8)
  · obtain ⟨r1, r2, r3, r4, r5, r6⟩ := T3
    have := h.1
    omega
end JVT
section JVS
variable {G : jv_Gr} {I : jv_I} {J : jv_J} {k i : Nat}
theorem jv_coderM (hk : k < 6) : jv_C 1 mJ0_coder_7d493 [.ref (1000000 + k)] G I J (some (.int 0)) G I J := by
  refine jv_enter okJ0_coder_7d493 (L := [.ref (1000000 + k)]) rfl (Nat.le_of_ble_eq_true rfl) ?_
  refine jv_compact dJ0_coder_7d493_0 flwJ0_38 ?_
  refine jv_if_eq dJ0_coder_7d493_3 (tgt := 13) (by decide) (fun q => absurd q (by decide)) (fun _ => ?_)
  refine jv_aload0 dJ0_coder_7d493_6 ?_
  refine jv_coder hk dJ0_coder_7d493_7 flwJ0_15 ?_
  refine jv_goto dJ0_coder_7d493_10 (tgt := 14) (by decide) ?_
  exact jv_iret dJ0_coder_7d493_14 rfl (by decide) rfl rfl rfl
theorem jv_latinM (hk : k < 6) : jv_C 1 mJ0_isLatin1_aae02 [.ref (1000000 + k)] G I J (some (.int 1)) G I J := by
  refine jv_enter okJ0_isLatin1_aae02 (L := [.ref (1000000 + k)]) rfl (Nat.le_of_ble_eq_true rfl) ?_
  refine jv_compact dJ0_isLatin1_aae02_0 flwJ0_38 ?_
  refine jv_if_eq dJ0_isLatin1_aae02_3 (tgt := 17) (by decide) (fun q => absurd q (by decide)) (fun _ => ?_)
  refine jv_aload0 dJ0_isLatin1_aae02_6 ?_
  refine jv_coder hk dJ0_isLatin1_aae02_7 flwJ0_15 ?_
  refine jv_if_ne dJ0_isLatin1_aae02_10 (tgt := 17) (by decide) (fun q => absurd rfl q) (fun _ => ?_)
  refine jv_iconst dJ0_isLatin1_aae02_13 (v := 1) (by decide) ?_
  refine jv_goto dJ0_isLatin1_aae02_14 (tgt := 18) (by decide) ?_
  exact jv_iret dJ0_isLatin1_aae02_18 rfl (by decide) rfl rfl rfl
theorem jv_lengthM (hk : k < 6) : jv_C 2 mJ0_length_8abf5 [.ref (1000000 + k)] G I J (some (.int (nI (jv_len.getD k 0)))) G I J := by
  refine jv_enter okJ0_length_8abf5 (L := [.ref (1000000 + k)]) rfl (Nat.le_of_ble_eq_true rfl) ?_
  refine jv_aload0 dJ0_length_8abf5_0 ?_
  refine jv_value hk dJ0_length_8abf5_1 flwJ0_9 ?_
  refine jv_balen hk dJ0_length_8abf5_4 ?_
  refine jv_aload0 dJ0_length_8abf5_5 ?_
  refine jv_callT (As := []) hk dJ0_length_8abf5_6 okJ0_coder_7d493 rfl inJ0_coder_7d493 seJ0_coder_7d493 mlJ0_335 (jv_coderM hk) (by decide) rfl rfl (Nat.le_of_ble_eq_true rfl) ?_
  refine jv_ishr dJ0_length_8abf5_9 ?_
  exact jv_iret dJ0_length_8abf5_10 rfl rfl (sc_shr0 (by match k, hk with | 0, _ => decide | 1, _ => decide | 2, _ => decide | 3, _ => decide | 4, _ => decide | 5, _ => decide)) rfl rfl
theorem jv_preM {x n q : Nat} (hx : x < n) (hn : n < 2 ^ 31) : jv_C 1 mJ3_checkIndex_8e157 [.int (nI x), .int (nI n), .ref q] G I J (some (.int (nI x))) G I J := by
  refine jv_enter okJ3_checkIndex_8e157 (L := [.int (nI x), .int (nI n), .ref q]) rfl (Nat.le_of_ble_eq_true rfl) ?_
  refine jv_iload0 dJ3_checkIndex_8e157_0 ?_
  refine jv_if_ltN dJ3_checkIndex_8e157_1 (tgt := 9) (by decide) (by omega) ?_
  refine jv_iload0 dJ3_checkIndex_8e157_4 ?_
  refine jv_iload1 dJ3_checkIndex_8e157_5 ?_
  refine jv_icmp_ltN dJ3_checkIndex_8e157_6 (tgt := 16) (by decide) (by omega) hn (fun _ => ?_) (fun z => absurd hx z)
  refine jv_iload0 dJ3_checkIndex_8e157_16 ?_
  exact jv_iret dJ3_checkIndex_8e157_17 rfl rfl rfl rfl rfl
theorem jv_chkM {x n : Nat} (hx : x < n) (hn : n < 2 ^ 31) : jv_C 2 mJ0_checkIndex_df160 [.int (nI x), .int (nI n)] G I J none G I J := by
  refine jv_enter okJ0_checkIndex_df160 (L := [.int (nI x), .int (nI n)]) rfl (Nat.le_of_ble_eq_true rfl) ?_
  refine jv_iload0 dJ0_checkIndex_df160_0 ?_
  refine jv_iload1 dJ0_checkIndex_df160_1 ?_
  refine jv_sio dJ0_checkIndex_df160_2 flwJ0_1053 (fun q => ?_)
  refine jv_s31 dJ0_checkIndex_df160_5 okJ3_checkIndex_8e157 stJ3_checkIndex_8e157 mlJ0_1059 (jv_preM hx hn) (by decide) (Nat.le_of_ble_eq_true rfl) ?_
  refine jv_pop dJ0_checkIndex_df160_8 rfl ?_
  exact jv_vret dJ0_checkIndex_df160_9 rfl rfl rfl rfl
theorem jv_byt_ok : ∀ k, k < 6 → ∀ i, i < jv_len.getD k 0 → ((((jv_byt.getD k []).getD i 0) &&& 255).toUInt32 % 65536).toInt32 = (jv_byt.getD k []).getD i 0 ∧ narrow .char (.int ((jv_byt.getD k []).getD i 0)) = .int ((jv_byt.getD k []).getD i 0) := by decide +kernel
theorem jv_len_ok : ∀ k, k < 6 → jv_len.getD k 0 < 8 := by decide
theorem jv_latCharM (hk : k < 6) (hi : i < jv_len.getD k 0) : jv_C 3 mJ1_charAt_3b067 [.ref (1000000 + (200 + k)), .int (nI i)] G I J (some (.int ((jv_byt.getD k []).getD i 0))) G I J := by
  have hl := jv_len_ok k hk
  refine jv_enter okJ1_charAt_3b067 (L := [.ref (1000000 + (200 + k)), .int (nI i)]) rfl (Nat.le_of_ble_eq_true rfl) ?_
  refine jv_iload1 dJ1_charAt_3b067_0 ?_
  refine jv_aload0 dJ1_charAt_3b067_1 ?_
  refine jv_balen hk dJ1_charAt_3b067_2 ?_
  refine jv_s20 dJ1_charAt_3b067_3 okJ0_checkIndex_df160 stJ0_checkIndex_df160 mlJ1_9 (jv_chkM hi (by omega)) (by decide) (Nat.le_of_ble_eq_true rfl) ?_
  refine jv_aload0 dJ1_charAt_3b067_6 ?_
  refine jv_iload1 dJ1_charAt_3b067_7 ?_
  refine jv_baload hk hi (by omega) dJ1_charAt_3b067_8 ?_
  refine jv_sipush dJ1_charAt_3b067_9 (v := 255) (by decide) ?_
  refine jv_iand dJ1_charAt_3b067_12 ?_
  refine jv_i2c dJ1_charAt_3b067_13 (jv_byt_ok k hk i hi).1 ?_
  exact jv_iret dJ1_charAt_3b067_14 rfl (jv_byt_ok k hk i hi).2 rfl rfl rfl
theorem jv_charAtM (hk : k < 6) (hi : i < jv_len.getD k 0) : jv_C 4 mJ0_charAt_5068e [.ref (1000000 + k), .int (nI i)] G I J (some (.int ((jv_byt.getD k []).getD i 0))) G I J := by
  refine jv_enter okJ0_charAt_5068e (L := [.ref (1000000 + k), .int (nI i)]) rfl (Nat.le_of_ble_eq_true rfl) ?_
  refine jv_aload0 dJ0_charAt_5068e_0 ?_
  refine jv_callT (As := []) hk dJ0_charAt_5068e_1 okJ0_isLatin1_aae02 rfl inJ0_isLatin1_aae02 seJ0_isLatin1_aae02 mlJ0_492 (jv_latinM hk) (by decide) rfl rfl (Nat.le_of_ble_eq_true rfl) ?_
  refine jv_if_eq dJ0_charAt_5068e_4 (tgt := 16) (by decide) (fun q => absurd q (by decide)) (fun _ => ?_)
  refine jv_aload0 dJ0_charAt_5068e_7 ?_
  refine jv_value hk dJ0_charAt_5068e_8 flwJ0_9 ?_
  refine jv_iload1 dJ0_charAt_5068e_11 ?_
  refine jv_s21 dJ0_charAt_5068e_12 okJ1_charAt_3b067 stJ1_charAt_3b067 mlJ0_495 (jv_latCharM hk hi) (by decide) (Nat.le_of_ble_eq_true rfl) ?_
  exact jv_iret dJ0_charAt_5068e_15 rfl (jv_byt_ok k hk i hi).2 rfl rfl rfl
end JVS
