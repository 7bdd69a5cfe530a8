/-! ===== the law: each call ===== -/
abbrev mL_law (nm : String) : jv_M := (⟨RL, nm, "([I)Z"⟩, cL_law, 4, some .boolean)
section OTLAW
variable {G G2 : jv_Gr} {I I2 : jv_I} {J J2 : jv_J} {Y Z : ot_Y} {E : ot_E} {K : Option ot_Y}
theorem ot_MR_hi {m : Nat} (h : ot_MR I m Y) (hm : 64 ≤ m) (hI : ∀ q, 64 ≤ q → I2 q = I q) : ot_MR I2 m Y := by
  obtain ⟨b1, b2, b3, b4⟩ := h
  unfold ot_MR
  rw [hI m (by omega), hI (m + 17) (by omega), hI (m + 18) (by omega), hI (m + 19) (by omega), hI (m + 20) (by omega), hI (m + 21) (by omega), hI (m + 22) (by omega), hI (m + 23) (by omega), hI (m + 24) (by omega), hI (m + 25) (by omega), hI (m + 26) (by omega)]
  exact ⟨b1, b2, b3, b4⟩
/-- the component's call leaves the reference as it is -/
theorem ot_M_hi (h : ot_M G I J Y Z E K) (hh : ot_hi I I2 J J2) : ot_M G I2 J2 Y Z E K := by
  obtain ⟨a, b, c, d, e, k, t, n⟩ := h
  have hI : ∀ q, 64 ≤ q → I2 q = I q := fun q hq => (hh q hq).1
  have hJ : ∀ q, 64 ≤ q → J2 q = J q := fun q hq => (hh q hq).2
  refine ⟨a, ot_MR_hi b (by decide) hI, c, ?_, e, ?_, t, n⟩
  · obtain ⟨d1, ⟨d2, d3⟩, d4⟩ := d
    refine ⟨fun s hs => ?_, ⟨?_, fun i hi => ?_⟩, fun k hk => ?_⟩
    · rw [hI 65 (by omega), hI 66 (by omega), hI 67 (by omega), hI 78 (by omega), hJ (64 + (5 + s)) (by omega)]; exact d1 s hs
    · rw [hI 64 (by omega)]; exact d2
    · rw [hI 79 (by omega)]; exact d3 i hi
    · rw [hI 80 (by omega)]; exact d4 k hk
  · cases K with
    | none => exact k
    | some YK =>
      obtain ⟨k1, k2, k3, k4⟩ := k
      exact ⟨k1, k2, ot_MR_hi k3 (by omega) hI, k4⟩
theorem ot_YR_lo {y : Nat} (h : ot_YR I y Y) (hy : y + 11 < 64) (hI : ∀ q, q < 64 → I2 q = I q) : ot_YR I2 y Y := by
  obtain ⟨b1, b2, b3, b4⟩ := h
  unfold ot_YR
  rw [hI y (by omega), hI (y + 1) (by omega), hI (y + 2) (by omega), hI (y + 3) (by omega), hI (y + 4) (by omega), hI (y + 5) (by omega), hI (y + 6) (by omega), hI (y + 7) (by omega), hI (y + 8) (by omega), hI (y + 9) (by omega), hI (y + 10) (by omega), hI (y + 11) (by omega)]
  exact ⟨b1, b2, b3, b4⟩
theorem ot_CG_gx (h : ot_CG G) (hx : ot_gx G G2) : ot_CG G2 := by
  obtain ⟨⟨a0, a1, a2, a3, a4, a5, a6, a7⟩, ⟨y1, y2, y3⟩, ⟨f0, f1, f2, f3, f4, f5, f6⟩, ⟨s1, s2, s3, s4, s5⟩, ⟨t1, t2, t3, t4, t5⟩, sh⟩ := h
  refine ⟨⟨((hx 1 (by omega)).1).trans a0, ((hx 1 (by omega)).2 0).trans a1, ((hx 1 (by omega)).2 1).trans a2, ((hx 1 (by omega)).2 2).trans a3, ((hx 1 (by omega)).2 3).trans a4, ((hx 1 (by omega)).2 4).trans a5, ((hx 1 (by omega)).2 5).trans a6, ((hx 1 (by omega)).2 6).trans a7⟩, ⟨⟨((hx 2 (by omega)).1).trans y1.1, fun j hj => ((hx (2 + (j + 1)) (by omega)).1).trans (y1.2.1 j hj), fun j hj => ((hx 2 (by omega)).2 _).trans (y1.2.2 j hj)⟩, ⟨((hx 14 (by omega)).1).trans y2.1, fun j hj => ((hx (14 + (j + 1)) (by omega)).1).trans (y2.2.1 j hj), fun j hj => ((hx 14 (by omega)).2 _).trans (y2.2.2 j hj)⟩, ⟨((hx 26 (by omega)).1).trans y3.1, fun j hj => ((hx (26 + (j + 1)) (by omega)).1).trans (y3.2.1 j hj), fun j hj => ((hx 26 (by omega)).2 _).trans (y3.2.2 j hj)⟩⟩, ⟨((hx 38 (by omega)).1).trans f0, ((hx 38 (by omega)).2 0).trans f1, ((hx 38 (by omega)).2 1).trans f2, ((hx 38 (by omega)).2 2).trans f3, ((hx 38 (by omega)).2 3).trans f4, ((hx 38 (by omega)).2 4).trans f5, ((hx 38 (by omega)).2 5).trans f6⟩, ⟨((hx 39 (by omega)).1).trans s1, ((hx 40 (by omega)).1).trans s2, ((hx 41 (by omega)).1).trans s3, ((hx 42 (by omega)).1).trans s4, ((hx 43 (by omega)).1).trans s5⟩, ⟨((hx 44 (by omega)).1).trans t1, ((hx 44 (by omega)).2 0).trans t2, ((hx 45 (by omega)).1).trans t3, ((hx 46 (by omega)).1).trans t4, ((hx 47 (by omega)).1).trans t5⟩, fun s hs => ?_⟩
  have q := sh s hs
  exact ⟨((hx 46 (by omega)).2 s).trans q.1, ((hx (48 + 2 * s) (by omega)).1).trans q.2.1, ((hx (48 + 2 * s) (by omega)).2 2).trans q.2.2.1, ((hx (49 + 2 * s) (by omega)).1).trans q.2.2.2⟩
/-- the reference's call leaves the component as it is -/
theorem ot_C_lo (h : ot_C G I J Y Z E K) (hl : ot_lo I I2 J J2) (hx : ot_gx G G2) : ot_C G2 I2 J2 Y Z E K := by
  obtain ⟨a, b, c, d, e, f⟩ := h
  have hI : ∀ q, q < 64 → I2 q = I q := fun q hq => (hl q hq).1
  have hJ : ∀ q, q < 64 → J2 q = J q := fun q hq => (hl q hq).2
  refine ⟨ot_CG_gx a hx, ot_YR_lo b (by decide) hI, c, ?_, e, ?_⟩
  · obtain ⟨d1, ⟨d2, d3⟩, d4⟩ := d
    refine ⟨fun s hs => ?_, ⟨?_, fun i hi => ?_⟩, fun j hj => ?_⟩
    · rw [hI (48 + 2 * s) (by omega), hJ (49 + 2 * s) (by omega)]; exact d1 s hs
    · rw [hI 44 (by omega)]; exact d2
    · rw [hI 45 (by omega)]; exact d3 i hi
    · rw [hI 47 (by omega)]; exact d4 j hj
  · cases K with
    | none =>
      show I2 1 7 = nI 0
      rw [hI 1 (by omega)]; exact f
    | some YK =>
      obtain ⟨f1, f2, f3⟩ := f
      exact ⟨by rw [hI 1 (by omega)]; exact f1, ot_YR_lo f2 (by decide) hI, f3⟩
end OTLAW
section JWL
variable {Lx : Nat} {xs : Nat → Int32} {d d2 pc idx n : Nat} {M M2 : jv_M} {L S As rest : List Value} {G G1 G' : jv_Gr} {I I1 I' : jv_I} {J J1 J' : jv_J} {r : Option Value} {v : Value}
theorem jw_iaddN {x y : Nat} (hd : decode M.2.1 pc = .ok (.iadd, 1)) (h : jw_V Lx xs d M (pc + 1) L (.int (nI (x + y)) :: S) G I J r G' I' J') : jw_V Lx xs d M pc L (.int (nI y) :: .int (nI x) :: S) G I J r G' I' J' := jw_iadd hd (by rw [nI_add]; exact h)
theorem jw_call {a ci nn N : Nat} {T : u_T} (hd : decode M.2.1 pc = .ok (.invokevirtual idx, 3)) (hok : jv_ok M2 n) (hin : Cond.instanceMethod M2.1 ∈ lw_tg) (hse : Cond.selects M2.1.cls M2.1 M2.1 ∈ lw_tg) (hl : Cond.methodLink M.1.cls idx M2.1 ∈ lw_tg) (hcl : vwCl[ci]? = some (M2.1.cls, T, N)) (ha : jv_k G a = (ci + 10, nn)) (hC : jv_C d2 M2 (.ref a :: As) G I J (some v) G1 I1 J1) (hdd : d2 + 1 ≤ d) (hn : As.length = n) (hs : As.reverse ++ .ref a :: rest = S) (h8 : (rest.map fun v => v.category).sum ≤ 8) (hw : jv_n G1 = jv_n G ∨ (jv_ow (jv_n G) L ∧ jv_ow (jv_n G) rest ∧ jv_n G1 < 1000000)) (h : jw_V Lx xs d M (pc + 3) L (v :: rest) G1 I1 J1 r G' I' J') : jw_V Lx xs d M pc L S G I J r G' I' J' := jw_callV hd hok hin hse hl hcl ha hC hdd hn hs h8 hw h
end JWL
theorem ot_ow_law {n i : Nat} (h : 64 ≤ n) : jv_ow n [.ref (1000000 + 400), .ref 1, .ref 64, .int (nI i)] := ot_ow_cons (fun r e => by cases e; exact .inr (by decide)) (ot_ow_r (by omega) (ot_ow_r (by omega) (ot_ow_i ot_ow_nil)))
/-- what is behind a call: the loop goes on -/
def ot_Nx (nm : String) (Lx : Nat) (xs : Nat → Int32) (i : Nat) : Prop := ∀ (G : jv_Gr) (I : jv_I) (J : jv_J) (Y Z : ot_Y) (E : ot_E) (K : Option ot_Y), ot_C G I J Y Z E K → ot_M G I J Y Z E K → ∃ G' I' J', jw_V Lx xs 30 (mL_law nm) 1961 [.ref (1000000 + 400), .ref 1, .ref 64, .int (nI i)] [] G I J (some (.int (nI 1))) G' I' J' ∧ jv_n G' ≤ 153 ∧ jv_s G' ≤ 5000
def ot_At (nm : String) (Lx : Nat) (xs : Nat → Int32) (i pc : Nat) : Prop := ∀ (G : jv_Gr) (I : jv_I) (J : jv_J) (Y Z : ot_Y) (E : ot_E) (K : Option ot_Y), ot_C G I J Y Z E K → ot_M G I J Y Z E K → ∃ G' I' J', jw_V Lx xs 30 (mL_law nm) pc [.ref (1000000 + 400), .ref 1, .ref 64, .int (nI i)] [] G I J (some (.int (nI 1))) G' I' J' ∧ jv_n G' ≤ 153 ∧ jv_s G' ≤ 5000
set_option maxRecDepth 20000 in
theorem lw_case0 {nm : String} {Lx : Nat} {xs : Nat → Int32} {i : Nat} (hi : i + 6 ≤ Lx) (hL : Lx ≤ 3072) (hN : ot_Nx nm Lx xs i) : ot_At nm Lx xs i 280 := fun G I J Y Z E K hC hM => by
  obtain ⟨I2, J2, cC, hC2, hh⟩ := pc_row hC (xs (i + 1)) (xs (i + 2)) (xs (i + 3))
  have hM2 := ot_M_hi hM hh
  obtain ⟨G3, I3, J3, cM, hM3, hl, hgx⟩ := pm_row hM2 (xs (i + 1)) (xs (i + 2)) (xs (i + 3))
  have hC3 := ot_C_lo hC2 hl hgx
  have hn64 : 64 ≤ jv_n G := by have := ot_M_n hM2; omega
  have hn153 : jv_n G3 < 1000000 := by have := hM3.n; unfold ot_NM at this; omega
  obtain ⟨G', I', J', hV, hb⟩ := hN _ _ _ _ _ _ _ hC3 hM3
  refine ⟨G', I', J', ?_, hb⟩
  refine jw_aload1 dL_law_280 ?_
  refine jw_aload0 dL_law_281 ?_
  refine jw_iload3 dL_law_282 ?_
  refine jw_iconst dL_law_283 jv_c_iconst_1 ?_
  refine jw_iaddN dL_law_284 ?_
  refine jw_sld dL_law_285 (by omega) (by omega) rfl ?_
  refine jw_aload0 dL_law_286 ?_
  refine jw_iload3 dL_law_287 ?_
  refine jw_iconst dL_law_288 jv_c_iconst_2 ?_
  refine jw_iaddN dL_law_289 ?_
  refine jw_sld dL_law_290 (by omega) (by omega) rfl ?_
  refine jw_aload0 dL_law_291 ?_
  refine jw_iload3 dL_law_292 ?_
  refine jw_iconst dL_law_293 jv_c_iconst_3 ?_
  refine jw_iaddN dL_law_294 ?_
  refine jw_sld dL_law_295 (by omega) (by omega) rfl ?_
  refine jw_call (a := 1) (As := [.int (xs (i + 1)), .int (xs (i + 2)), .int (xs (i + 3))]) (rest := []) dL_law_296 okX4_row inX4_row seX4_row mlL_13 (ci := 4) (T := TX4) (N := 8) rfl (ck hC.g) cC (by decide) rfl rfl (Nat.le_of_ble_eq_true rfl) (.inl rfl) ?_
  refine jw_aload2 dL_law_299 ?_
  refine jw_aload0 dL_law_300 ?_
  refine jw_iload3 dL_law_301 ?_
  refine jw_iconst dL_law_302 jv_c_iconst_1 ?_
  refine jw_iaddN dL_law_303 ?_
  refine jw_sld dL_law_304 (by omega) (by omega) rfl ?_
  refine jw_aload0 dL_law_305 ?_
  refine jw_iload3 dL_law_306 ?_
  refine jw_iconst dL_law_307 jv_c_iconst_2 ?_
  refine jw_iaddN dL_law_308 ?_
  refine jw_sld dL_law_309 (by omega) (by omega) rfl ?_
  refine jw_aload0 dL_law_310 ?_
  refine jw_iload3 dL_law_311 ?_
  refine jw_iconst dL_law_312 jv_c_iconst_3 ?_
  refine jw_iaddN dL_law_313 ?_
  refine jw_sld dL_law_314 (by omega) (by omega) rfl ?_
  refine jw_call (a := 64) (As := [.int (xs (i + 1)), .int (xs (i + 2)), .int (xs (i + 3))]) (rest := [.int (_)]) dL_law_315 okX5_row inX5_row seX5_row mlL_17 (ci := 5) (T := TX5) (N := 35) rfl (mk hM2.g) cM (by decide) rfl rfl (Nat.le_of_ble_eq_true rfl) (.inr ⟨ot_ow_law hn64, (ot_ow_i ot_ow_nil), hn153⟩) ?_
  refine jw_icmp_eq dL_law_318 (tgt := 1961) (by decide) (fun _ => ?_) (fun q => absurd rfl q)
  exact hV
set_option maxRecDepth 20000 in
theorem lw_case1 {nm : String} {Lx : Nat} {xs : Nat → Int32} {i : Nat} (hi : i + 6 ≤ Lx) (hL : Lx ≤ 3072) (hN : ot_Nx nm Lx xs i) : ot_At nm Lx xs i 323 := fun G I J Y Z E K hC hM => by
  obtain ⟨I2, J2, cC, hC2, hh⟩ := pc_set hC (xs (i + 1)) (xs (i + 2)) (((xs (i + 3)).toInt64 <<< ((nI 32).toInt64 &&& 63)) ||| ((xs (i + 4)).toInt64 &&& 4294967295))
  have hM2 := ot_M_hi hM hh
  obtain ⟨G3, I3, J3, cM, hM3, hl, hgx⟩ := pm_set hM2 (xs (i + 1)) (xs (i + 2)) (((xs (i + 3)).toInt64 <<< ((nI 32).toInt64 &&& 63)) ||| ((xs (i + 4)).toInt64 &&& 4294967295))
  have hC3 := ot_C_lo hC2 hl hgx
  have hn64 : 64 ≤ jv_n G := by have := ot_M_n hM2; omega
  have hn153 : jv_n G3 < 1000000 := by have := hM3.n; unfold ot_NM at this; omega
  obtain ⟨G', I', J', hV, hb⟩ := hN _ _ _ _ _ _ _ hC3 hM3
  refine ⟨G', I', J', ?_, hb⟩
  refine jw_aload1 dL_law_323 ?_
  refine jw_aload0 dL_law_324 ?_
  refine jw_iload3 dL_law_325 ?_
  refine jw_iconst dL_law_326 jv_c_iconst_1 ?_
  refine jw_iaddN dL_law_327 ?_
  refine jw_sld dL_law_328 (by omega) (by omega) rfl ?_
  refine jw_aload0 dL_law_329 ?_
  refine jw_iload3 dL_law_330 ?_
  refine jw_iconst dL_law_331 jv_c_iconst_2 ?_
  refine jw_iaddN dL_law_332 ?_
  refine jw_sld dL_law_333 (by omega) (by omega) rfl ?_
  refine jw_aload0 dL_law_334 ?_
  refine jw_iload3 dL_law_335 ?_
  refine jw_iconst dL_law_336 jv_c_iconst_3 ?_
  refine jw_iaddN dL_law_337 ?_
  refine jw_sld dL_law_338 (by omega) (by omega) rfl ?_
  refine jw_i2l dL_law_339 rfl ?_
  refine jw_bipush dL_law_340 jv_c_bipush_32 ?_
  refine jw_lshl dL_law_342 rfl ?_
  refine jw_aload0 dL_law_343 ?_
  refine jw_iload3 dL_law_344 ?_
  refine jw_iconst dL_law_345 jv_c_iconst_4 ?_
  refine jw_iaddN dL_law_346 ?_
  refine jw_sld dL_law_347 (by omega) (by omega) rfl ?_
  refine jw_i2l dL_law_348 rfl ?_
  refine jw_ldc2 dL_law_349 cnL_18 ?_
  refine jw_land dL_law_352 ?_
  refine jw_lor dL_law_353 ?_
  refine jw_call (a := 1) (As := [.int (xs (i + 1)), .int (xs (i + 2)), .long (((xs (i + 3)).toInt64 <<< ((nI 32).toInt64 &&& 63)) ||| ((xs (i + 4)).toInt64 &&& 4294967295))]) (rest := []) dL_law_354 okX4_set inX4_set seX4_set mlL_20 (ci := 4) (T := TX4) (N := 8) rfl (ck hC.g) cC (by decide) rfl rfl (Nat.le_of_ble_eq_true rfl) (.inl rfl) ?_
  refine jw_aload2 dL_law_357 ?_
  refine jw_aload0 dL_law_358 ?_
  refine jw_iload3 dL_law_359 ?_
  refine jw_iconst dL_law_360 jv_c_iconst_1 ?_
  refine jw_iaddN dL_law_361 ?_
  refine jw_sld dL_law_362 (by omega) (by omega) rfl ?_
  refine jw_aload0 dL_law_363 ?_
  refine jw_iload3 dL_law_364 ?_
  refine jw_iconst dL_law_365 jv_c_iconst_2 ?_
  refine jw_iaddN dL_law_366 ?_
  refine jw_sld dL_law_367 (by omega) (by omega) rfl ?_
  refine jw_aload0 dL_law_368 ?_
  refine jw_iload3 dL_law_369 ?_
  refine jw_iconst dL_law_370 jv_c_iconst_3 ?_
  refine jw_iaddN dL_law_371 ?_
  refine jw_sld dL_law_372 (by omega) (by omega) rfl ?_
  refine jw_i2l dL_law_373 rfl ?_
  refine jw_bipush dL_law_374 jv_c_bipush_32 ?_
  refine jw_lshl dL_law_376 rfl ?_
  refine jw_aload0 dL_law_377 ?_
  refine jw_iload3 dL_law_378 ?_
  refine jw_iconst dL_law_379 jv_c_iconst_4 ?_
  refine jw_iaddN dL_law_380 ?_
  refine jw_sld dL_law_381 (by omega) (by omega) rfl ?_
  refine jw_i2l dL_law_382 rfl ?_
  refine jw_ldc2 dL_law_383 cnL_18 ?_
  refine jw_land dL_law_386 ?_
  refine jw_lor dL_law_387 ?_
  refine jw_call (a := 64) (As := [.int (xs (i + 1)), .int (xs (i + 2)), .long (((xs (i + 3)).toInt64 <<< ((nI 32).toInt64 &&& 63)) ||| ((xs (i + 4)).toInt64 &&& 4294967295))]) (rest := [.int (_)]) dL_law_388 okX5_set inX5_set seX5_set mlL_24 (ci := 5) (T := TX5) (N := 35) rfl (mk hM2.g) cM (by decide) rfl rfl (Nat.le_of_ble_eq_true rfl) (.inr ⟨ot_ow_law hn64, (ot_ow_i ot_ow_nil), hn153⟩) ?_
  refine jw_icmp_eq dL_law_391 (tgt := 1961) (by decide) (fun _ => ?_) (fun q => absurd rfl q)
  exact hV
set_option maxRecDepth 20000 in
theorem lw_case2 {nm : String} {Lx : Nat} {xs : Nat → Int32} {i : Nat} (hi : i + 6 ≤ Lx) (hL : Lx ≤ 3072) (hN : ot_Nx nm Lx xs i) : ot_At nm Lx xs i 396 := fun G I J Y Z E K hC hM => by
  obtain ⟨I2, J2, cC, hC2, hh⟩ := pc_copy hC (xs (i + 1)) (xs (i + 2)) (xs (i + 3)) (xs (i + 4)) (xs (i + 5))
  have hM2 := ot_M_hi hM hh
  obtain ⟨G3, I3, J3, cM, hM3, hl, hgx⟩ := pm_copy hM2 (xs (i + 1)) (xs (i + 2)) (xs (i + 3)) (xs (i + 4)) (xs (i + 5))
  have hC3 := ot_C_lo hC2 hl hgx
  have hn64 : 64 ≤ jv_n G := by have := ot_M_n hM2; omega
  have hn153 : jv_n G3 < 1000000 := by have := hM3.n; unfold ot_NM at this; omega
  obtain ⟨G', I', J', hV, hb⟩ := hN _ _ _ _ _ _ _ hC3 hM3
  refine ⟨G', I', J', ?_, hb⟩
  refine jw_aload1 dL_law_396 ?_
  refine jw_aload0 dL_law_397 ?_
  refine jw_iload3 dL_law_398 ?_
  refine jw_iconst dL_law_399 jv_c_iconst_1 ?_
  refine jw_iaddN dL_law_400 ?_
  refine jw_sld dL_law_401 (by omega) (by omega) rfl ?_
  refine jw_aload0 dL_law_402 ?_
  refine jw_iload3 dL_law_403 ?_
  refine jw_iconst dL_law_404 jv_c_iconst_2 ?_
  refine jw_iaddN dL_law_405 ?_
  refine jw_sld dL_law_406 (by omega) (by omega) rfl ?_
  refine jw_aload0 dL_law_407 ?_
  refine jw_iload3 dL_law_408 ?_
  refine jw_iconst dL_law_409 jv_c_iconst_3 ?_
  refine jw_iaddN dL_law_410 ?_
  refine jw_sld dL_law_411 (by omega) (by omega) rfl ?_
  refine jw_aload0 dL_law_412 ?_
  refine jw_iload3 dL_law_413 ?_
  refine jw_iconst dL_law_414 jv_c_iconst_4 ?_
  refine jw_iaddN dL_law_415 ?_
  refine jw_sld dL_law_416 (by omega) (by omega) rfl ?_
  refine jw_aload0 dL_law_417 ?_
  refine jw_iload3 dL_law_418 ?_
  refine jw_iconst dL_law_419 jv_c_iconst_5 ?_
  refine jw_iaddN dL_law_420 ?_
  refine jw_sld dL_law_421 (by omega) (by omega) rfl ?_
  refine jw_call (a := 1) (As := [.int (xs (i + 1)), .int (xs (i + 2)), .int (xs (i + 3)), .int (xs (i + 4)), .int (xs (i + 5))]) (rest := []) dL_law_422 okX4_copy inX4_copy seX4_copy mlL_25 (ci := 4) (T := TX4) (N := 8) rfl (ck hC.g) cC (by decide) rfl rfl (Nat.le_of_ble_eq_true rfl) (.inl rfl) ?_
  refine jw_aload2 dL_law_425 ?_
  refine jw_aload0 dL_law_426 ?_
  refine jw_iload3 dL_law_427 ?_
  refine jw_iconst dL_law_428 jv_c_iconst_1 ?_
  refine jw_iaddN dL_law_429 ?_
  refine jw_sld dL_law_430 (by omega) (by omega) rfl ?_
  refine jw_aload0 dL_law_431 ?_
  refine jw_iload3 dL_law_432 ?_
  refine jw_iconst dL_law_433 jv_c_iconst_2 ?_
  refine jw_iaddN dL_law_434 ?_
  refine jw_sld dL_law_435 (by omega) (by omega) rfl ?_
  refine jw_aload0 dL_law_436 ?_
  refine jw_iload3 dL_law_437 ?_
  refine jw_iconst dL_law_438 jv_c_iconst_3 ?_
  refine jw_iaddN dL_law_439 ?_
  refine jw_sld dL_law_440 (by omega) (by omega) rfl ?_
  refine jw_aload0 dL_law_441 ?_
  refine jw_iload3 dL_law_442 ?_
  refine jw_iconst dL_law_443 jv_c_iconst_4 ?_
  refine jw_iaddN dL_law_444 ?_
  refine jw_sld dL_law_445 (by omega) (by omega) rfl ?_
  refine jw_aload0 dL_law_446 ?_
  refine jw_iload3 dL_law_447 ?_
  refine jw_iconst dL_law_448 jv_c_iconst_5 ?_
  refine jw_iaddN dL_law_449 ?_
  refine jw_sld dL_law_450 (by omega) (by omega) rfl ?_
  refine jw_call (a := 64) (As := [.int (xs (i + 1)), .int (xs (i + 2)), .int (xs (i + 3)), .int (xs (i + 4)), .int (xs (i + 5))]) (rest := [.int (_)]) dL_law_451 okX5_copy inX5_copy seX5_copy mlL_29 (ci := 5) (T := TX5) (N := 35) rfl (mk hM2.g) cM (by decide) rfl rfl (Nat.le_of_ble_eq_true rfl) (.inr ⟨ot_ow_law hn64, (ot_ow_i ot_ow_nil), hn153⟩) ?_
  refine jw_icmp_eq dL_law_454 (tgt := 1961) (by decide) (fun _ => ?_) (fun q => absurd rfl q)
  exact hV
set_option maxRecDepth 20000 in
theorem lw_case3 {nm : String} {Lx : Nat} {xs : Nat → Int32} {i : Nat} (hi : i + 6 ≤ Lx) (hL : Lx ≤ 3072) (hN : ot_Nx nm Lx xs i) : ot_At nm Lx xs i 459 := fun G I J Y Z E K hC hM => by
  have cC := pc_element hC (xs (i + 1)) (xs (i + 2))
  have hM2 := hM
  have cM := pm_element hM (xs (i + 1)) (xs (i + 2))
  obtain ⟨G', I', J', hV, hb⟩ := hN _ _ _ _ _ _ _ hC hM
  refine ⟨G', I', J', ?_, hb⟩
  refine jw_aload1 dL_law_459 ?_
  refine jw_aload0 dL_law_460 ?_
  refine jw_iload3 dL_law_461 ?_
  refine jw_iconst dL_law_462 jv_c_iconst_1 ?_
  refine jw_iaddN dL_law_463 ?_
  refine jw_sld dL_law_464 (by omega) (by omega) rfl ?_
  refine jw_aload0 dL_law_465 ?_
  refine jw_iload3 dL_law_466 ?_
  refine jw_iconst dL_law_467 jv_c_iconst_2 ?_
  refine jw_iaddN dL_law_468 ?_
  refine jw_sld dL_law_469 (by omega) (by omega) rfl ?_
  refine jw_call (a := 1) (As := [.int (xs (i + 1)), .int (xs (i + 2))]) (rest := []) dL_law_470 okX4_element inX4_element seX4_element mlL_30 (ci := 4) (T := TX4) (N := 8) rfl (ck hC.g) cC (by decide) rfl rfl (Nat.le_of_ble_eq_true rfl) (.inl rfl) ?_
  refine jw_aload2 dL_law_473 ?_
  refine jw_aload0 dL_law_474 ?_
  refine jw_iload3 dL_law_475 ?_
  refine jw_iconst dL_law_476 jv_c_iconst_1 ?_
  refine jw_iaddN dL_law_477 ?_
  refine jw_sld dL_law_478 (by omega) (by omega) rfl ?_
  refine jw_aload0 dL_law_479 ?_
  refine jw_iload3 dL_law_480 ?_
  refine jw_iconst dL_law_481 jv_c_iconst_2 ?_
  refine jw_iaddN dL_law_482 ?_
  refine jw_sld dL_law_483 (by omega) (by omega) rfl ?_
  refine jw_call (a := 64) (As := [.int (xs (i + 1)), .int (xs (i + 2))]) (rest := [.long (ot_elem Z E (xs (i + 1)) (xs (i + 2)))]) dL_law_484 okX5_element inX5_element seX5_element mlL_34 (ci := 5) (T := TX5) (N := 35) rfl (mk hM2.g) cM (by decide) rfl rfl (Nat.le_of_ble_eq_true rfl) (.inl rfl) ?_
  refine jw_lcmp dL_law_487 ?_
  rw [ot_cmp_eq.mpr rfl]
  refine jw_if_eq dL_law_488 (tgt := 1961) (by decide) (fun _ => ?_) (fun q => absurd rfl q)
  exact hV
set_option maxRecDepth 20000 in
theorem lw_case4 {nm : String} {Lx : Nat} {xs : Nat → Int32} {i : Nat} (hi : i + 6 ≤ Lx) (hL : Lx ≤ 3072) (hN : ot_Nx nm Lx xs i) : ot_At nm Lx xs i 493 := fun G I J Y Z E K hC hM => by
  obtain ⟨I2, J2, cC, hC2, hh⟩ := pc_holds hC (xs (i + 1))
  have hM2 := ot_M_hi hM hh
  obtain ⟨G3, I3, J3, cM, hM3, hl, hgx⟩ := pm_holds hM2 (xs (i + 1))
  have hC3 := ot_C_lo hC2 hl hgx
  have hn64 : 64 ≤ jv_n G := by have := ot_M_n hM2; omega
  have hn153 : jv_n G3 < 1000000 := by have := hM3.n; unfold ot_NM at this; omega
  obtain ⟨G', I', J', hV, hb⟩ := hN _ _ _ _ _ _ _ hC3 hM3
  refine ⟨G', I', J', ?_, hb⟩
  refine jw_aload1 dL_law_493 ?_
  refine jw_aload0 dL_law_494 ?_
  refine jw_iload3 dL_law_495 ?_
  refine jw_iconst dL_law_496 jv_c_iconst_1 ?_
  refine jw_iaddN dL_law_497 ?_
  refine jw_sld dL_law_498 (by omega) (by omega) rfl ?_
  refine jw_call (a := 1) (As := [.int (xs (i + 1))]) (rest := []) dL_law_499 okX4_holds inX4_holds seX4_holds mlL_35 (ci := 4) (T := TX4) (N := 8) rfl (ck hC.g) cC (by decide) rfl rfl (Nat.le_of_ble_eq_true rfl) (.inl rfl) ?_
  refine jw_aload2 dL_law_502 ?_
  refine jw_aload0 dL_law_503 ?_
  refine jw_iload3 dL_law_504 ?_
  refine jw_iconst dL_law_505 jv_c_iconst_1 ?_
  refine jw_iaddN dL_law_506 ?_
  refine jw_sld dL_law_507 (by omega) (by omega) rfl ?_
  refine jw_call (a := 64) (As := [.int (xs (i + 1))]) (rest := [.int (_)]) dL_law_508 okX5_holds inX5_holds seX5_holds mlL_39 (ci := 5) (T := TX5) (N := 35) rfl (mk hM2.g) cM (by decide) rfl rfl (Nat.le_of_ble_eq_true rfl) (.inr ⟨ot_ow_law hn64, (ot_ow_i ot_ow_nil), hn153⟩) ?_
  refine jw_icmp_eq dL_law_511 (tgt := 1961) (by decide) (fun _ => ?_) (fun q => absurd rfl q)
  exact hV
set_option maxRecDepth 20000 in
theorem lw_case5 {nm : String} {Lx : Nat} {xs : Nat → Int32} {i : Nat} (hi : i + 6 ≤ Lx) (hL : Lx ≤ 3072) (hN : ot_Nx nm Lx xs i) : ot_At nm Lx xs i 516 := fun G I J Y Z E K hC hM => by
  obtain ⟨I2, J2, cC, hC2, hh⟩ := pc_show hC (xs (i + 1)) (xs (i + 2))
  have hM2 := ot_M_hi hM hh
  obtain ⟨G3, I3, J3, cM, hM3, hl, hgx⟩ := pm_show hM2 (xs (i + 1)) (xs (i + 2))
  have hC3 := ot_C_lo hC2 hl hgx
  have hn64 : 64 ≤ jv_n G := by have := ot_M_n hM2; omega
  have hn153 : jv_n G3 < 1000000 := by have := hM3.n; unfold ot_NM at this; omega
  obtain ⟨G', I', J', hV, hb⟩ := hN _ _ _ _ _ _ _ hC3 hM3
  refine ⟨G', I', J', ?_, hb⟩
  refine jw_aload1 dL_law_516 ?_
  refine jw_aload0 dL_law_517 ?_
  refine jw_iload3 dL_law_518 ?_
  refine jw_iconst dL_law_519 jv_c_iconst_1 ?_
  refine jw_iaddN dL_law_520 ?_
  refine jw_sld dL_law_521 (by omega) (by omega) rfl ?_
  refine jw_aload0 dL_law_522 ?_
  refine jw_iload3 dL_law_523 ?_
  refine jw_iconst dL_law_524 jv_c_iconst_2 ?_
  refine jw_iaddN dL_law_525 ?_
  refine jw_sld dL_law_526 (by omega) (by omega) rfl ?_
  refine jw_call (a := 1) (As := [.int (xs (i + 1)), .int (xs (i + 2))]) (rest := []) dL_law_527 okX4_show inX4_show seX4_show mlL_40 (ci := 4) (T := TX4) (N := 8) rfl (ck hC.g) cC (by decide) rfl rfl (Nat.le_of_ble_eq_true rfl) (.inl rfl) ?_
  refine jw_aload2 dL_law_530 ?_
  refine jw_aload0 dL_law_531 ?_
  refine jw_iload3 dL_law_532 ?_
  refine jw_iconst dL_law_533 jv_c_iconst_1 ?_
  refine jw_iaddN dL_law_534 ?_
  refine jw_sld dL_law_535 (by omega) (by omega) rfl ?_
  refine jw_aload0 dL_law_536 ?_
  refine jw_iload3 dL_law_537 ?_
  refine jw_iconst dL_law_538 jv_c_iconst_2 ?_
  refine jw_iaddN dL_law_539 ?_
  refine jw_sld dL_law_540 (by omega) (by omega) rfl ?_
  refine jw_call (a := 64) (As := [.int (xs (i + 1)), .int (xs (i + 2))]) (rest := [.int (_)]) dL_law_541 okX5_show inX5_show seX5_show mlL_44 (ci := 5) (T := TX5) (N := 35) rfl (mk hM2.g) cM (by decide) rfl rfl (Nat.le_of_ble_eq_true rfl) (.inr ⟨ot_ow_law hn64, (ot_ow_i ot_ow_nil), hn153⟩) ?_
  refine jw_icmp_eq dL_law_544 (tgt := 1961) (by decide) (fun _ => ?_) (fun q => absurd rfl q)
  exact hV
set_option maxRecDepth 20000 in
theorem lw_case6 {nm : String} {Lx : Nat} {xs : Nat → Int32} {i : Nat} (hi : i + 6 ≤ Lx) (hL : Lx ≤ 3072) (hN : ot_Nx nm Lx xs i) : ot_At nm Lx xs i 549 := fun G I J Y Z E K hC hM => by
  obtain ⟨I2, J2, cC, hC2, hh⟩ := pc_says hC (xs (i + 1)) (xs (i + 2))
  have hM2 := ot_M_hi hM hh
  obtain ⟨G3, I3, J3, cM, hM3, hl, hgx⟩ := pm_says hM2 (xs (i + 1)) (xs (i + 2))
  have hC3 := ot_C_lo hC2 hl hgx
  have hn64 : 64 ≤ jv_n G := by have := ot_M_n hM2; omega
  have hn153 : jv_n G3 < 1000000 := by have := hM3.n; unfold ot_NM at this; omega
  obtain ⟨G', I', J', hV, hb⟩ := hN _ _ _ _ _ _ _ hC3 hM3
  refine ⟨G', I', J', ?_, hb⟩
  refine jw_aload1 dL_law_549 ?_
  refine jw_aload0 dL_law_550 ?_
  refine jw_iload3 dL_law_551 ?_
  refine jw_iconst dL_law_552 jv_c_iconst_1 ?_
  refine jw_iaddN dL_law_553 ?_
  refine jw_sld dL_law_554 (by omega) (by omega) rfl ?_
  refine jw_aload0 dL_law_555 ?_
  refine jw_iload3 dL_law_556 ?_
  refine jw_iconst dL_law_557 jv_c_iconst_2 ?_
  refine jw_iaddN dL_law_558 ?_
  refine jw_sld dL_law_559 (by omega) (by omega) rfl ?_
  refine jw_call (a := 1) (As := [.int (xs (i + 1)), .int (xs (i + 2))]) (rest := []) dL_law_560 okX4_says inX4_says seX4_says mlL_45 (ci := 4) (T := TX4) (N := 8) rfl (ck hC.g) cC (by decide) rfl rfl (Nat.le_of_ble_eq_true rfl) (.inl rfl) ?_
  refine jw_aload2 dL_law_563 ?_
  refine jw_aload0 dL_law_564 ?_
  refine jw_iload3 dL_law_565 ?_
  refine jw_iconst dL_law_566 jv_c_iconst_1 ?_
  refine jw_iaddN dL_law_567 ?_
  refine jw_sld dL_law_568 (by omega) (by omega) rfl ?_
  refine jw_aload0 dL_law_569 ?_
  refine jw_iload3 dL_law_570 ?_
  refine jw_iconst dL_law_571 jv_c_iconst_2 ?_
  refine jw_iaddN dL_law_572 ?_
  refine jw_sld dL_law_573 (by omega) (by omega) rfl ?_
  refine jw_call (a := 64) (As := [.int (xs (i + 1)), .int (xs (i + 2))]) (rest := [.int (_)]) dL_law_574 okX5_says inX5_says seX5_says mlL_48 (ci := 5) (T := TX5) (N := 35) rfl (mk hM2.g) cM (by decide) rfl rfl (Nat.le_of_ble_eq_true rfl) (.inr ⟨ot_ow_law hn64, (ot_ow_i ot_ow_nil), hn153⟩) ?_
  refine jw_icmp_eq dL_law_577 (tgt := 1961) (by decide) (fun _ => ?_) (fun q => absurd rfl q)
  exact hV
set_option maxRecDepth 20000 in
theorem lw_case7 {nm : String} {Lx : Nat} {xs : Nat → Int32} {i : Nat} (hi : i + 6 ≤ Lx) (hL : Lx ≤ 3072) (hN : ot_Nx nm Lx xs i) : ot_At nm Lx xs i 582 := fun G I J Y Z E K hC hM => by
  obtain ⟨I2, J2, cC, hC2, hh⟩ := pc_child hC (xs (i + 1)) (xs (i + 2))
  have hM2 := ot_M_hi hM hh
  obtain ⟨G3, I3, J3, cM, hM3, hl, hgx⟩ := pm_child hM2 (xs (i + 1)) (xs (i + 2))
  have hC3 := ot_C_lo hC2 hl hgx
  have hn64 : 64 ≤ jv_n G := by have := ot_M_n hM2; omega
  have hn153 : jv_n G3 < 1000000 := by have := hM3.n; unfold ot_NM at this; omega
  obtain ⟨G', I', J', hV, hb⟩ := hN _ _ _ _ _ _ _ hC3 hM3
  refine ⟨G', I', J', ?_, hb⟩
  refine jw_aload1 dL_law_582 ?_
  refine jw_aload0 dL_law_583 ?_
  refine jw_iload3 dL_law_584 ?_
  refine jw_iconst dL_law_585 jv_c_iconst_1 ?_
  refine jw_iaddN dL_law_586 ?_
  refine jw_sld dL_law_587 (by omega) (by omega) rfl ?_
  refine jw_aload0 dL_law_588 ?_
  refine jw_iload3 dL_law_589 ?_
  refine jw_iconst dL_law_590 jv_c_iconst_2 ?_
  refine jw_iaddN dL_law_591 ?_
  refine jw_sld dL_law_592 (by omega) (by omega) rfl ?_
  refine jw_call (a := 1) (As := [.int (xs (i + 1)), .int (xs (i + 2))]) (rest := []) dL_law_593 okX4_child inX4_child seX4_child mlL_49 (ci := 4) (T := TX4) (N := 8) rfl (ck hC.g) cC (by decide) rfl rfl (Nat.le_of_ble_eq_true rfl) (.inl rfl) ?_
  refine jw_aload2 dL_law_596 ?_
  refine jw_aload0 dL_law_597 ?_
  refine jw_iload3 dL_law_598 ?_
  refine jw_iconst dL_law_599 jv_c_iconst_1 ?_
  refine jw_iaddN dL_law_600 ?_
  refine jw_sld dL_law_601 (by omega) (by omega) rfl ?_
  refine jw_aload0 dL_law_602 ?_
  refine jw_iload3 dL_law_603 ?_
  refine jw_iconst dL_law_604 jv_c_iconst_2 ?_
  refine jw_iaddN dL_law_605 ?_
  refine jw_sld dL_law_606 (by omega) (by omega) rfl ?_
  refine jw_call (a := 64) (As := [.int (xs (i + 1)), .int (xs (i + 2))]) (rest := [.int (_)]) dL_law_607 okX5_child inX5_child seX5_child mlL_52 (ci := 5) (T := TX5) (N := 35) rfl (mk hM2.g) cM (by decide) rfl rfl (Nat.le_of_ble_eq_true rfl) (.inr ⟨ot_ow_law hn64, (ot_ow_i ot_ow_nil), hn153⟩) ?_
  refine jw_icmp_eq dL_law_610 (tgt := 1961) (by decide) (fun _ => ?_) (fun q => absurd rfl q)
  exact hV
set_option maxRecDepth 20000 in
theorem lw_case8 {nm : String} {Lx : Nat} {xs : Nat → Int32} {i : Nat} (hi : i + 6 ≤ Lx) (hL : Lx ≤ 3072) (hN : ot_Nx nm Lx xs i) : ot_At nm Lx xs i 615 := fun G I J Y Z E K hC hM => by
  obtain ⟨I2, J2, cC, hC2, hh⟩ := pc_count hC (xs (i + 1)) (xs (i + 2)) (xs (i + 3))
  have hM2 := ot_M_hi hM hh
  obtain ⟨G3, I3, J3, cM, hM3, hl, hgx⟩ := pm_count hM2 (xs (i + 1)) (xs (i + 2)) (xs (i + 3))
  have hC3 := ot_C_lo hC2 hl hgx
  have hn64 : 64 ≤ jv_n G := by have := ot_M_n hM2; omega
  have hn153 : jv_n G3 < 1000000 := by have := hM3.n; unfold ot_NM at this; omega
  obtain ⟨G', I', J', hV, hb⟩ := hN _ _ _ _ _ _ _ hC3 hM3
  refine ⟨G', I', J', ?_, hb⟩
  refine jw_aload1 dL_law_615 ?_
  refine jw_aload0 dL_law_616 ?_
  refine jw_iload3 dL_law_617 ?_
  refine jw_iconst dL_law_618 jv_c_iconst_1 ?_
  refine jw_iaddN dL_law_619 ?_
  refine jw_sld dL_law_620 (by omega) (by omega) rfl ?_
  refine jw_aload0 dL_law_621 ?_
  refine jw_iload3 dL_law_622 ?_
  refine jw_iconst dL_law_623 jv_c_iconst_2 ?_
  refine jw_iaddN dL_law_624 ?_
  refine jw_sld dL_law_625 (by omega) (by omega) rfl ?_
  refine jw_aload0 dL_law_626 ?_
  refine jw_iload3 dL_law_627 ?_
  refine jw_iconst dL_law_628 jv_c_iconst_3 ?_
  refine jw_iaddN dL_law_629 ?_
  refine jw_sld dL_law_630 (by omega) (by omega) rfl ?_
  refine jw_call (a := 1) (As := [.int (xs (i + 1)), .int (xs (i + 2)), .int (xs (i + 3))]) (rest := []) dL_law_631 okX4_count inX4_count seX4_count mlL_53 (ci := 4) (T := TX4) (N := 8) rfl (ck hC.g) cC (by decide) rfl rfl (Nat.le_of_ble_eq_true rfl) (.inl rfl) ?_
  refine jw_aload2 dL_law_634 ?_
  refine jw_aload0 dL_law_635 ?_
  refine jw_iload3 dL_law_636 ?_
  refine jw_iconst dL_law_637 jv_c_iconst_1 ?_
  refine jw_iaddN dL_law_638 ?_
  refine jw_sld dL_law_639 (by omega) (by omega) rfl ?_
  refine jw_aload0 dL_law_640 ?_
  refine jw_iload3 dL_law_641 ?_
  refine jw_iconst dL_law_642 jv_c_iconst_2 ?_
  refine jw_iaddN dL_law_643 ?_
  refine jw_sld dL_law_644 (by omega) (by omega) rfl ?_
  refine jw_aload0 dL_law_645 ?_
  refine jw_iload3 dL_law_646 ?_
  refine jw_iconst dL_law_647 jv_c_iconst_3 ?_
  refine jw_iaddN dL_law_648 ?_
  refine jw_sld dL_law_649 (by omega) (by omega) rfl ?_
  refine jw_call (a := 64) (As := [.int (xs (i + 1)), .int (xs (i + 2)), .int (xs (i + 3))]) (rest := [.int (_)]) dL_law_650 okX5_count inX5_count seX5_count mlL_56 (ci := 5) (T := TX5) (N := 35) rfl (mk hM2.g) cM (by decide) rfl rfl (Nat.le_of_ble_eq_true rfl) (.inr ⟨ot_ow_law hn64, (ot_ow_i ot_ow_nil), hn153⟩) ?_
  refine jw_icmp_eq dL_law_653 (tgt := 1961) (by decide) (fun _ => ?_) (fun q => absurd rfl q)
  exact hV
set_option maxRecDepth 20000 in
theorem lw_case9 {nm : String} {Lx : Nat} {xs : Nat → Int32} {i : Nat} (hi : i + 6 ≤ Lx) (hL : Lx ≤ 3072) (hN : ot_Nx nm Lx xs i) : ot_At nm Lx xs i 658 := fun G I J Y Z E K hC hM => by
  obtain ⟨I2, J2, cC, hC2, hh⟩ := pc_wish hC (xs (i + 1)) (xs (i + 2)) (xs (i + 4)) (¬ xs (i + 3) = 0)
  have hM2 := ot_M_hi hM hh
  obtain ⟨G3, I3, J3, cM, hM3, hl, hgx⟩ := pm_wish hM2 (xs (i + 1)) (xs (i + 2)) (xs (i + 4)) (¬ xs (i + 3) = 0)
  have hC3 := ot_C_lo hC2 hl hgx
  have hn64 : 64 ≤ jv_n G := by have := ot_M_n hM2; omega
  have hn153 : jv_n G3 < 1000000 := by have := hM3.n; unfold ot_NM at this; omega
  obtain ⟨G', I', J', hV, hb⟩ := hN _ _ _ _ _ _ _ hC3 hM3
  refine ⟨G', I', J', ?_, hb⟩
  by_cases hz : xs (i + 3) = 0
  · have eg : jv_b (¬ xs (i + 3) = 0) = nI 0 := jv_b_f (fun q => q hz)
    rw [eg] at cC cM
    refine jw_aload1 dL_law_658 ?_
    refine jw_aload0 dL_law_659 ?_
    refine jw_iload3 dL_law_660 ?_
    refine jw_iconst dL_law_661 jv_c_iconst_1 ?_
    refine jw_iaddN dL_law_662 ?_
    refine jw_sld dL_law_663 (by omega) (by omega) rfl ?_
    refine jw_aload0 dL_law_664 ?_
    refine jw_iload3 dL_law_665 ?_
    refine jw_iconst dL_law_666 jv_c_iconst_2 ?_
    refine jw_iaddN dL_law_667 ?_
    refine jw_sld dL_law_668 (by omega) (by omega) rfl ?_
    refine jw_aload0 dL_law_669 ?_
    refine jw_iload3 dL_law_670 ?_
    refine jw_iconst dL_law_671 jv_c_iconst_3 ?_
    refine jw_iaddN dL_law_672 ?_
    refine jw_sld dL_law_673 (by omega) (by omega) rfl ?_
    refine jw_if_eq dL_law_674 (tgt := 681) (by decide) (fun _ => ?_) (fun q => absurd hz q)
    refine jw_iconst dL_law_681 jv_c_iconst_0 ?_
    refine jw_aload0 dL_law_682 ?_
    refine jw_iload3 dL_law_683 ?_
    refine jw_iconst dL_law_684 jv_c_iconst_4 ?_
    refine jw_iaddN dL_law_685 ?_
    refine jw_sld dL_law_686 (by omega) (by omega) rfl ?_
    refine jw_call (a := 1) (As := [.int (xs (i + 1)), .int (xs (i + 2)), .int (nI 0), .int (xs (i + 4))]) (rest := []) dL_law_687 okX4_wish inX4_wish seX4_wish mlL_57 (ci := 4) (T := TX4) (N := 8) rfl (ck hC.g) cC (by decide) rfl rfl (Nat.le_of_ble_eq_true rfl) (.inl rfl) ?_
    refine jw_aload2 dL_law_690 ?_
    refine jw_aload0 dL_law_691 ?_
    refine jw_iload3 dL_law_692 ?_
    refine jw_iconst dL_law_693 jv_c_iconst_1 ?_
    refine jw_iaddN dL_law_694 ?_
    refine jw_sld dL_law_695 (by omega) (by omega) rfl ?_
    refine jw_aload0 dL_law_696 ?_
    refine jw_iload3 dL_law_697 ?_
    refine jw_iconst dL_law_698 jv_c_iconst_2 ?_
    refine jw_iaddN dL_law_699 ?_
    refine jw_sld dL_law_700 (by omega) (by omega) rfl ?_
    refine jw_aload0 dL_law_701 ?_
    refine jw_iload3 dL_law_702 ?_
    refine jw_iconst dL_law_703 jv_c_iconst_3 ?_
    refine jw_iaddN dL_law_704 ?_
    refine jw_sld dL_law_705 (by omega) (by omega) rfl ?_
    refine jw_if_eq dL_law_706 (tgt := 713) (by decide) (fun _ => ?_) (fun q => absurd hz q)
    refine jw_iconst dL_law_713 jv_c_iconst_0 ?_
    refine jw_aload0 dL_law_714 ?_
    refine jw_iload3 dL_law_715 ?_
    refine jw_iconst dL_law_716 jv_c_iconst_4 ?_
    refine jw_iaddN dL_law_717 ?_
    refine jw_sld dL_law_718 (by omega) (by omega) rfl ?_
    refine jw_call (a := 64) (As := [.int (xs (i + 1)), .int (xs (i + 2)), .int (nI 0), .int (xs (i + 4))]) (rest := [.int (_)]) dL_law_719 okX5_wish inX5_wish seX5_wish mlL_61 (ci := 5) (T := TX5) (N := 35) rfl (mk hM2.g) cM (by decide) rfl rfl (Nat.le_of_ble_eq_true rfl) (.inr ⟨ot_ow_law hn64, (ot_ow_i ot_ow_nil), hn153⟩) ?_
    refine jw_icmp_eq dL_law_722 (tgt := 1961) (by decide) (fun _ => ?_) (fun q => absurd rfl q)
    exact hV
  · have eg : jv_b (¬ xs (i + 3) = 0) = nI 1 := jv_b_t hz
    rw [eg] at cC cM
    refine jw_aload1 dL_law_658 ?_
    refine jw_aload0 dL_law_659 ?_
    refine jw_iload3 dL_law_660 ?_
    refine jw_iconst dL_law_661 jv_c_iconst_1 ?_
    refine jw_iaddN dL_law_662 ?_
    refine jw_sld dL_law_663 (by omega) (by omega) rfl ?_
    refine jw_aload0 dL_law_664 ?_
    refine jw_iload3 dL_law_665 ?_
    refine jw_iconst dL_law_666 jv_c_iconst_2 ?_
    refine jw_iaddN dL_law_667 ?_
    refine jw_sld dL_law_668 (by omega) (by omega) rfl ?_
    refine jw_aload0 dL_law_669 ?_
    refine jw_iload3 dL_law_670 ?_
    refine jw_iconst dL_law_671 jv_c_iconst_3 ?_
    refine jw_iaddN dL_law_672 ?_
    refine jw_sld dL_law_673 (by omega) (by omega) rfl ?_
    refine jw_if_eq dL_law_674 (tgt := 681) (by decide) (fun q => absurd q hz) (fun _ => ?_)
    refine jw_iconst dL_law_677 jv_c_iconst_1 ?_
    refine jw_goto dL_law_678 (tgt := 682) (by decide) ?_
    refine jw_aload0 dL_law_682 ?_
    refine jw_iload3 dL_law_683 ?_
    refine jw_iconst dL_law_684 jv_c_iconst_4 ?_
    refine jw_iaddN dL_law_685 ?_
    refine jw_sld dL_law_686 (by omega) (by omega) rfl ?_
    refine jw_call (a := 1) (As := [.int (xs (i + 1)), .int (xs (i + 2)), .int (nI 1), .int (xs (i + 4))]) (rest := []) dL_law_687 okX4_wish inX4_wish seX4_wish mlL_57 (ci := 4) (T := TX4) (N := 8) rfl (ck hC.g) cC (by decide) rfl rfl (Nat.le_of_ble_eq_true rfl) (.inl rfl) ?_
    refine jw_aload2 dL_law_690 ?_
    refine jw_aload0 dL_law_691 ?_
    refine jw_iload3 dL_law_692 ?_
    refine jw_iconst dL_law_693 jv_c_iconst_1 ?_
    refine jw_iaddN dL_law_694 ?_
    refine jw_sld dL_law_695 (by omega) (by omega) rfl ?_
    refine jw_aload0 dL_law_696 ?_
    refine jw_iload3 dL_law_697 ?_
    refine jw_iconst dL_law_698 jv_c_iconst_2 ?_
    refine jw_iaddN dL_law_699 ?_
    refine jw_sld dL_law_700 (by omega) (by omega) rfl ?_
    refine jw_aload0 dL_law_701 ?_
    refine jw_iload3 dL_law_702 ?_
    refine jw_iconst dL_law_703 jv_c_iconst_3 ?_
    refine jw_iaddN dL_law_704 ?_
    refine jw_sld dL_law_705 (by omega) (by omega) rfl ?_
    refine jw_if_eq dL_law_706 (tgt := 713) (by decide) (fun q => absurd q hz) (fun _ => ?_)
    refine jw_iconst dL_law_709 jv_c_iconst_1 ?_
    refine jw_goto dL_law_710 (tgt := 714) (by decide) ?_
    refine jw_aload0 dL_law_714 ?_
    refine jw_iload3 dL_law_715 ?_
    refine jw_iconst dL_law_716 jv_c_iconst_4 ?_
    refine jw_iaddN dL_law_717 ?_
    refine jw_sld dL_law_718 (by omega) (by omega) rfl ?_
    refine jw_call (a := 64) (As := [.int (xs (i + 1)), .int (xs (i + 2)), .int (nI 1), .int (xs (i + 4))]) (rest := [.int (_)]) dL_law_719 okX5_wish inX5_wish seX5_wish mlL_61 (ci := 5) (T := TX5) (N := 35) rfl (mk hM2.g) cM (by decide) rfl rfl (Nat.le_of_ble_eq_true rfl) (.inr ⟨ot_ow_law hn64, (ot_ow_i ot_ow_nil), hn153⟩) ?_
    refine jw_icmp_eq dL_law_722 (tgt := 1961) (by decide) (fun _ => ?_) (fun q => absurd rfl q)
    exact hV
set_option maxRecDepth 20000 in
theorem lw_case10 {nm : String} {Lx : Nat} {xs : Nat → Int32} {i : Nat} (hi : i + 6 ≤ Lx) (hL : Lx ≤ 3072) (hN : ot_Nx nm Lx xs i) : ot_At nm Lx xs i 727 := fun G I J Y Z E K hC hM => by
  obtain ⟨I2, J2, cC, hC2, hh⟩ := pc_content hC 
  have hM2 := ot_M_hi hM hh
  obtain ⟨G3, I3, J3, cM, hM3, hl, hgx⟩ := pm_content hM2 
  have hC3 := ot_C_lo hC2 hl hgx
  have hn64 : 64 ≤ jv_n G := by have := ot_M_n hM2; omega
  have hn153 : jv_n G3 < 1000000 := by have := hM3.n; unfold ot_NM at this; omega
  obtain ⟨G', I', J', hV, hb⟩ := hN _ _ _ _ _ _ _ hC3 hM3
  refine ⟨G', I', J', ?_, hb⟩
  refine jw_aload1 dL_law_727 ?_
  refine jw_call (a := 1) (As := []) (rest := []) dL_law_728 okX4_content inX4_content seX4_content mlL_62 (ci := 4) (T := TX4) (N := 8) rfl (ck hC.g) cC (by decide) rfl rfl (Nat.le_of_ble_eq_true rfl) (.inl rfl) ?_
  refine jw_aload2 dL_law_731 ?_
  refine jw_call (a := 64) (As := []) (rest := [.int (_)]) dL_law_732 okX5_content inX5_content seX5_content mlL_66 (ci := 5) (T := TX5) (N := 35) rfl (mk hM2.g) cM (by decide) rfl rfl (Nat.le_of_ble_eq_true rfl) (.inr ⟨ot_ow_law hn64, (ot_ow_i ot_ow_nil), hn153⟩) ?_
  refine jw_icmp_eq dL_law_735 (tgt := 1961) (by decide) (fun _ => ?_) (fun q => absurd rfl q)
  exact hV
set_option maxRecDepth 20000 in
theorem lw_case11 {nm : String} {Lx : Nat} {xs : Nat → Int32} {i : Nat} (hi : i + 6 ≤ Lx) (hL : Lx ≤ 3072) (hN : ot_Nx nm Lx xs i) : ot_At nm Lx xs i 740 := fun G I J Y Z E K hC hM => by
  obtain ⟨I2, J2, cC, hC2, hh⟩ := pc_feed hC (xs (i + 1))
  have hM2 := ot_M_hi hM hh
  obtain ⟨G3, I3, J3, cM, hM3, hl, hgx⟩ := pm_feed hM2 (xs (i + 1))
  have hC3 := ot_C_lo hC2 hl hgx
  have hn64 : 64 ≤ jv_n G := by have := ot_M_n hM2; omega
  have hn153 : jv_n G3 < 1000000 := by have := hM3.n; unfold ot_NM at this; omega
  obtain ⟨G', I', J', hV, hb⟩ := hN _ _ _ _ _ _ _ hC3 hM3
  refine ⟨G', I', J', ?_, hb⟩
  refine jw_aload1 dL_law_740 ?_
  refine jw_aload0 dL_law_741 ?_
  refine jw_iload3 dL_law_742 ?_
  refine jw_iconst dL_law_743 jv_c_iconst_1 ?_
  refine jw_iaddN dL_law_744 ?_
  refine jw_sld dL_law_745 (by omega) (by omega) rfl ?_
  refine jw_call (a := 1) (As := [.int (xs (i + 1))]) (rest := []) dL_law_746 okX4_feed inX4_feed seX4_feed mlL_67 (ci := 4) (T := TX4) (N := 8) rfl (ck hC.g) cC (by decide) rfl rfl (Nat.le_of_ble_eq_true rfl) (.inl rfl) ?_
  refine jw_aload2 dL_law_749 ?_
  refine jw_aload0 dL_law_750 ?_
  refine jw_iload3 dL_law_751 ?_
  refine jw_iconst dL_law_752 jv_c_iconst_1 ?_
  refine jw_iaddN dL_law_753 ?_
  refine jw_sld dL_law_754 (by omega) (by omega) rfl ?_
  refine jw_call (a := 64) (As := [.int (xs (i + 1))]) (rest := [.int (_)]) dL_law_755 okX5_feed inX5_feed seX5_feed mlL_70 (ci := 5) (T := TX5) (N := 35) rfl (mk hM2.g) cM (by decide) rfl rfl (Nat.le_of_ble_eq_true rfl) (.inr ⟨ot_ow_law hn64, (ot_ow_i ot_ow_nil), hn153⟩) ?_
  refine jw_icmp_eq dL_law_758 (tgt := 1961) (by decide) (fun _ => ?_) (fun q => absurd rfl q)
  exact hV
set_option maxRecDepth 20000 in
theorem lw_case12 {nm : String} {Lx : Nat} {xs : Nat → Int32} {i : Nat} (hi : i + 6 ≤ Lx) (hL : Lx ≤ 3072) (hN : ot_Nx nm Lx xs i) : ot_At nm Lx xs i 763 := fun G I J Y Z E K hC hM => by
  obtain ⟨I2, J2, cC, hC2, hh⟩ := pc_wipe hC 
  have hM2 := ot_M_hi hM hh
  obtain ⟨G3, I3, J3, cM, hM3, hl, hgx⟩ := pm_wipe hM2 
  have hC3 := ot_C_lo hC2 hl hgx
  have hn64 : 64 ≤ jv_n G := by have := ot_M_n hM2; omega
  have hn153 : jv_n G3 < 1000000 := by have := hM3.n; unfold ot_NM at this; omega
  obtain ⟨G', I', J', hV, hb⟩ := hN _ _ _ _ _ _ _ hC3 hM3
  refine ⟨G', I', J', ?_, hb⟩
  refine jw_aload1 dL_law_763 ?_
  refine jw_call (a := 1) (As := []) (rest := []) dL_law_764 okX4_wipe inX4_wipe seX4_wipe mlL_71 (ci := 4) (T := TX4) (N := 8) rfl (ck hC.g) cC (by decide) rfl rfl (Nat.le_of_ble_eq_true rfl) (.inl rfl) ?_
  refine jw_aload2 dL_law_767 ?_
  refine jw_call (a := 64) (As := []) (rest := [.int (_)]) dL_law_768 okX5_wipe inX5_wipe seX5_wipe mlL_74 (ci := 5) (T := TX5) (N := 35) rfl (mk hM2.g) cM (by decide) rfl rfl (Nat.le_of_ble_eq_true rfl) (.inr ⟨ot_ow_law hn64, (ot_ow_i ot_ow_nil), hn153⟩) ?_
  refine jw_icmp_eq dL_law_771 (tgt := 1961) (by decide) (fun _ => ?_) (fun q => absurd rfl q)
  exact hV
set_option maxRecDepth 20000 in
theorem lw_case13 {nm : String} {Lx : Nat} {xs : Nat → Int32} {i : Nat} (hi : i + 6 ≤ Lx) (hL : Lx ≤ 3072) (hN : ot_Nx nm Lx xs i) : ot_At nm Lx xs i 776 := fun G I J Y Z E K hC hM => by
  obtain ⟨I2, J2, cC, hC2, hh⟩ := pc_yard hC 
  have hM2 := ot_M_hi hM hh
  obtain ⟨G3, I3, J3, cM, hM3, hl, hgx⟩ := pm_yard hM2 
  have hC3 := ot_C_lo hC2 hl hgx
  have hn64 : 64 ≤ jv_n G := by have := ot_M_n hM2; omega
  have hn153 : jv_n G3 < 1000000 := by have := hM3.n; unfold ot_NM at this; omega
  obtain ⟨G', I', J', hV, hb⟩ := hN _ _ _ _ _ _ _ hC3 hM3
  refine ⟨G', I', J', ?_, hb⟩
  refine jw_aload1 dL_law_776 ?_
  refine jw_call (a := 1) (As := []) (rest := []) dL_law_777 okX4_yard inX4_yard seX4_yard mlL_75 (ci := 4) (T := TX4) (N := 8) rfl (ck hC.g) cC (by decide) rfl rfl (Nat.le_of_ble_eq_true rfl) (.inl rfl) ?_
  refine jw_aload2 dL_law_780 ?_
  refine jw_call (a := 64) (As := []) (rest := [.int (_)]) dL_law_781 okX5_yard inX5_yard seX5_yard mlL_78 (ci := 5) (T := TX5) (N := 35) rfl (mk hM2.g) cM (by decide) rfl rfl (Nat.le_of_ble_eq_true rfl) (.inr ⟨ot_ow_law hn64, (ot_ow_i ot_ow_nil), hn153⟩) ?_
  refine jw_icmp_eq dL_law_784 (tgt := 1961) (by decide) (fun _ => ?_) (fun q => absurd rfl q)
  exact hV
set_option maxRecDepth 20000 in
theorem lw_case14 {nm : String} {Lx : Nat} {xs : Nat → Int32} {i : Nat} (hi : i + 6 ≤ Lx) (hL : Lx ≤ 3072) (hN : ot_Nx nm Lx xs i) : ot_At nm Lx xs i 789 := fun G I J Y Z E K hC hM => by
  obtain ⟨I2, J2, cC, hC2, hh⟩ := pc_childOf hC (xs (i + 1)) (xs (i + 2))
  have hM2 := ot_M_hi hM hh
  obtain ⟨G3, I3, J3, cM, hM3, hl, hgx⟩ := pm_childOf hM2 (xs (i + 1)) (xs (i + 2))
  have hC3 := ot_C_lo hC2 hl hgx
  have hn64 : 64 ≤ jv_n G := by have := ot_M_n hM2; omega
  have hn153 : jv_n G3 < 1000000 := by have := hM3.n; unfold ot_NM at this; omega
  obtain ⟨G', I', J', hV, hb⟩ := hN _ _ _ _ _ _ _ hC3 hM3
  refine ⟨G', I', J', ?_, hb⟩
  refine jw_aload1 dL_law_789 ?_
  refine jw_aload0 dL_law_790 ?_
  refine jw_iload3 dL_law_791 ?_
  refine jw_iconst dL_law_792 jv_c_iconst_1 ?_
  refine jw_iaddN dL_law_793 ?_
  refine jw_sld dL_law_794 (by omega) (by omega) rfl ?_
  refine jw_aload0 dL_law_795 ?_
  refine jw_iload3 dL_law_796 ?_
  refine jw_iconst dL_law_797 jv_c_iconst_2 ?_
  refine jw_iaddN dL_law_798 ?_
  refine jw_sld dL_law_799 (by omega) (by omega) rfl ?_
  refine jw_call (a := 1) (As := [.int (xs (i + 1)), .int (xs (i + 2))]) (rest := []) dL_law_800 okX4_childOf inX4_childOf seX4_childOf mlL_79 (ci := 4) (T := TX4) (N := 8) rfl (ck hC.g) cC (by decide) rfl rfl (Nat.le_of_ble_eq_true rfl) (.inl rfl) ?_
  refine jw_aload2 dL_law_803 ?_
  refine jw_aload0 dL_law_804 ?_
  refine jw_iload3 dL_law_805 ?_
  refine jw_iconst dL_law_806 jv_c_iconst_1 ?_
  refine jw_iaddN dL_law_807 ?_
  refine jw_sld dL_law_808 (by omega) (by omega) rfl ?_
  refine jw_aload0 dL_law_809 ?_
  refine jw_iload3 dL_law_810 ?_
  refine jw_iconst dL_law_811 jv_c_iconst_2 ?_
  refine jw_iaddN dL_law_812 ?_
  refine jw_sld dL_law_813 (by omega) (by omega) rfl ?_
  refine jw_call (a := 64) (As := [.int (xs (i + 1)), .int (xs (i + 2))]) (rest := [.int (_)]) dL_law_814 okX5_childOf inX5_childOf seX5_childOf mlL_82 (ci := 5) (T := TX5) (N := 35) rfl (mk hM2.g) cM (by decide) rfl rfl (Nat.le_of_ble_eq_true rfl) (.inr ⟨ot_ow_law hn64, (ot_ow_i ot_ow_nil), hn153⟩) ?_
  refine jw_icmp_eq dL_law_817 (tgt := 1961) (by decide) (fun _ => ?_) (fun q => absurd rfl q)
  exact hV
set_option maxRecDepth 20000 in
theorem lw_case15 {nm : String} {Lx : Nat} {xs : Nat → Int32} {i : Nat} (hi : i + 6 ≤ Lx) (hL : Lx ≤ 3072) (hN : ot_Nx nm Lx xs i) : ot_At nm Lx xs i 822 := fun G I J Y Z E K hC hM => by
  obtain ⟨I2, J2, cC, hC2, hh⟩ := pc_countOf hC (xs (i + 1)) (xs (i + 2))
  have hM2 := ot_M_hi hM hh
  obtain ⟨G3, I3, J3, cM, hM3, hl, hgx⟩ := pm_countOf hM2 (xs (i + 1)) (xs (i + 2))
  have hC3 := ot_C_lo hC2 hl hgx
  have hn64 : 64 ≤ jv_n G := by have := ot_M_n hM2; omega
  have hn153 : jv_n G3 < 1000000 := by have := hM3.n; unfold ot_NM at this; omega
  obtain ⟨G', I', J', hV, hb⟩ := hN _ _ _ _ _ _ _ hC3 hM3
  refine ⟨G', I', J', ?_, hb⟩
  refine jw_aload1 dL_law_822 ?_
  refine jw_aload0 dL_law_823 ?_
  refine jw_iload3 dL_law_824 ?_
  refine jw_iconst dL_law_825 jv_c_iconst_1 ?_
  refine jw_iaddN dL_law_826 ?_
  refine jw_sld dL_law_827 (by omega) (by omega) rfl ?_
  refine jw_aload0 dL_law_828 ?_
  refine jw_iload3 dL_law_829 ?_
  refine jw_iconst dL_law_830 jv_c_iconst_2 ?_
  refine jw_iaddN dL_law_831 ?_
  refine jw_sld dL_law_832 (by omega) (by omega) rfl ?_
  refine jw_call (a := 1) (As := [.int (xs (i + 1)), .int (xs (i + 2))]) (rest := []) dL_law_833 okX4_countOf inX4_countOf seX4_countOf mlL_83 (ci := 4) (T := TX4) (N := 8) rfl (ck hC.g) cC (by decide) rfl rfl (Nat.le_of_ble_eq_true rfl) (.inl rfl) ?_
  refine jw_aload2 dL_law_836 ?_
  refine jw_aload0 dL_law_837 ?_
  refine jw_iload3 dL_law_838 ?_
  refine jw_iconst dL_law_839 jv_c_iconst_1 ?_
  refine jw_iaddN dL_law_840 ?_
  refine jw_sld dL_law_841 (by omega) (by omega) rfl ?_
  refine jw_aload0 dL_law_842 ?_
  refine jw_iload3 dL_law_843 ?_
  refine jw_iconst dL_law_844 jv_c_iconst_2 ?_
  refine jw_iaddN dL_law_845 ?_
  refine jw_sld dL_law_846 (by omega) (by omega) rfl ?_
  refine jw_call (a := 64) (As := [.int (xs (i + 1)), .int (xs (i + 2))]) (rest := [.int (_)]) dL_law_847 okX5_countOf inX5_countOf seX5_countOf mlL_86 (ci := 5) (T := TX5) (N := 35) rfl (mk hM2.g) cM (by decide) rfl rfl (Nat.le_of_ble_eq_true rfl) (.inr ⟨ot_ow_law hn64, (ot_ow_i ot_ow_nil), hn153⟩) ?_
  refine jw_icmp_eq dL_law_850 (tgt := 1961) (by decide) (fun _ => ?_) (fun q => absurd rfl q)
  exact hV
set_option maxRecDepth 20000 in
theorem lw_case16 {nm : String} {Lx : Nat} {xs : Nat → Int32} {i : Nat} (hi : i + 6 ≤ Lx) (hL : Lx ≤ 3072) (hN : ot_Nx nm Lx xs i) : ot_At nm Lx xs i 855 := fun G I J Y Z E K hC hM => by
  obtain ⟨I2, J2, cC, hC2, hh⟩ := pc_wishOf hC (xs (i + 1)) (xs (i + 2))
  have hM2 := ot_M_hi hM hh
  obtain ⟨G3, I3, J3, cM, hM3, hl, hgx⟩ := pm_wishOf hM2 (xs (i + 1)) (xs (i + 2))
  have hC3 := ot_C_lo hC2 hl hgx
  have hn64 : 64 ≤ jv_n G := by have := ot_M_n hM2; omega
  have hn153 : jv_n G3 < 1000000 := by have := hM3.n; unfold ot_NM at this; omega
  obtain ⟨G', I', J', hV, hb⟩ := hN _ _ _ _ _ _ _ hC3 hM3
  refine ⟨G', I', J', ?_, hb⟩
  refine jw_aload1 dL_law_855 ?_
  refine jw_aload0 dL_law_856 ?_
  refine jw_iload3 dL_law_857 ?_
  refine jw_iconst dL_law_858 jv_c_iconst_1 ?_
  refine jw_iaddN dL_law_859 ?_
  refine jw_sld dL_law_860 (by omega) (by omega) rfl ?_
  refine jw_aload0 dL_law_861 ?_
  refine jw_iload3 dL_law_862 ?_
  refine jw_iconst dL_law_863 jv_c_iconst_2 ?_
  refine jw_iaddN dL_law_864 ?_
  refine jw_sld dL_law_865 (by omega) (by omega) rfl ?_
  refine jw_call (a := 1) (As := [.int (xs (i + 1)), .int (xs (i + 2))]) (rest := []) dL_law_866 okX4_wishOf inX4_wishOf seX4_wishOf mlL_87 (ci := 4) (T := TX4) (N := 8) rfl (ck hC.g) cC (by decide) rfl rfl (Nat.le_of_ble_eq_true rfl) (.inl rfl) ?_
  refine jw_aload2 dL_law_869 ?_
  refine jw_aload0 dL_law_870 ?_
  refine jw_iload3 dL_law_871 ?_
  refine jw_iconst dL_law_872 jv_c_iconst_1 ?_
  refine jw_iaddN dL_law_873 ?_
  refine jw_sld dL_law_874 (by omega) (by omega) rfl ?_
  refine jw_aload0 dL_law_875 ?_
  refine jw_iload3 dL_law_876 ?_
  refine jw_iconst dL_law_877 jv_c_iconst_2 ?_
  refine jw_iaddN dL_law_878 ?_
  refine jw_sld dL_law_879 (by omega) (by omega) rfl ?_
  refine jw_call (a := 64) (As := [.int (xs (i + 1)), .int (xs (i + 2))]) (rest := [.int (_)]) dL_law_880 okX5_wishOf inX5_wishOf seX5_wishOf mlL_90 (ci := 5) (T := TX5) (N := 35) rfl (mk hM2.g) cM (by decide) rfl rfl (Nat.le_of_ble_eq_true rfl) (.inr ⟨ot_ow_law hn64, (ot_ow_i ot_ow_nil), hn153⟩) ?_
  refine jw_icmp_eq dL_law_883 (tgt := 1961) (by decide) (fun _ => ?_) (fun q => absurd rfl q)
  exact hV
set_option maxRecDepth 20000 in
theorem lw_case17 {nm : String} {Lx : Nat} {xs : Nat → Int32} {i : Nat} (hi : i + 6 ≤ Lx) (hL : Lx ≤ 3072) (hN : ot_Nx nm Lx xs i) : ot_At nm Lx xs i 888 := fun G I J Y Z E K hC hM => by
  obtain ⟨I2, J2, cC, hC2, hh⟩ := pc_at hC (xs (i + 1))
  have hM2 := ot_M_hi hM hh
  obtain ⟨G3, I3, J3, cM, hM3, hl, hgx⟩ := pm_at hM2 (xs (i + 1))
  have hC3 := ot_C_lo hC2 hl hgx
  have hn64 : 64 ≤ jv_n G := by have := ot_M_n hM2; omega
  have hn153 : jv_n G3 < 1000000 := by have := hM3.n; unfold ot_NM at this; omega
  obtain ⟨G', I', J', hV, hb⟩ := hN _ _ _ _ _ _ _ hC3 hM3
  refine ⟨G', I', J', ?_, hb⟩
  refine jw_aload1 dL_law_888 ?_
  refine jw_aload0 dL_law_889 ?_
  refine jw_iload3 dL_law_890 ?_
  refine jw_iconst dL_law_891 jv_c_iconst_1 ?_
  refine jw_iaddN dL_law_892 ?_
  refine jw_sld dL_law_893 (by omega) (by omega) rfl ?_
  refine jw_call (a := 1) (As := [.int (xs (i + 1))]) (rest := []) dL_law_894 okX4_at inX4_at seX4_at mlL_91 (ci := 4) (T := TX4) (N := 8) rfl (ck hC.g) cC (by decide) rfl rfl (Nat.le_of_ble_eq_true rfl) (.inl rfl) ?_
  refine jw_aload2 dL_law_897 ?_
  refine jw_aload0 dL_law_898 ?_
  refine jw_iload3 dL_law_899 ?_
  refine jw_iconst dL_law_900 jv_c_iconst_1 ?_
  refine jw_iaddN dL_law_901 ?_
  refine jw_sld dL_law_902 (by omega) (by omega) rfl ?_
  refine jw_call (a := 64) (As := [.int (xs (i + 1))]) (rest := [.int (_)]) dL_law_903 okX5_at inX5_at seX5_at mlL_94 (ci := 5) (T := TX5) (N := 35) rfl (mk hM2.g) cM (by decide) rfl rfl (Nat.le_of_ble_eq_true rfl) (.inr ⟨ot_ow_law hn64, (ot_ow_i ot_ow_nil), hn153⟩) ?_
  refine jw_icmp_eq dL_law_906 (tgt := 1961) (by decide) (fun _ => ?_) (fun q => absurd rfl q)
  exact hV
set_option maxRecDepth 20000 in
theorem lw_case18 {nm : String} {Lx : Nat} {xs : Nat → Int32} {i : Nat} (hi : i + 6 ≤ Lx) (hL : Lx ≤ 3072) (hN : ot_Nx nm Lx xs i) : ot_At nm Lx xs i 911 := fun G I J Y Z E K hC hM => by
  obtain ⟨I2, J2, cC, hC2, hh⟩ := pc_team hC (xs (i + 1)) (xs (i + 2))
  have hM2 := ot_M_hi hM hh
  obtain ⟨G3, I3, J3, cM, hM3, hl, hgx⟩ := pm_team hM2 (xs (i + 1)) (xs (i + 2))
  have hC3 := ot_C_lo hC2 hl hgx
  have hn64 : 64 ≤ jv_n G := by have := ot_M_n hM2; omega
  have hn153 : jv_n G3 < 1000000 := by have := hM3.n; unfold ot_NM at this; omega
  obtain ⟨G', I', J', hV, hb⟩ := hN _ _ _ _ _ _ _ hC3 hM3
  refine ⟨G', I', J', ?_, hb⟩
  refine jw_aload1 dL_law_911 ?_
  refine jw_aload0 dL_law_912 ?_
  refine jw_iload3 dL_law_913 ?_
  refine jw_iconst dL_law_914 jv_c_iconst_1 ?_
  refine jw_iaddN dL_law_915 ?_
  refine jw_sld dL_law_916 (by omega) (by omega) rfl ?_
  refine jw_aload0 dL_law_917 ?_
  refine jw_iload3 dL_law_918 ?_
  refine jw_iconst dL_law_919 jv_c_iconst_2 ?_
  refine jw_iaddN dL_law_920 ?_
  refine jw_sld dL_law_921 (by omega) (by omega) rfl ?_
  refine jw_call (a := 1) (As := [.int (xs (i + 1)), .int (xs (i + 2))]) (rest := []) dL_law_922 okX4_team inX4_team seX4_team mlL_95 (ci := 4) (T := TX4) (N := 8) rfl (ck hC.g) cC (by decide) rfl rfl (Nat.le_of_ble_eq_true rfl) (.inl rfl) ?_
  refine jw_aload2 dL_law_925 ?_
  refine jw_aload0 dL_law_926 ?_
  refine jw_iload3 dL_law_927 ?_
  refine jw_iconst dL_law_928 jv_c_iconst_1 ?_
  refine jw_iaddN dL_law_929 ?_
  refine jw_sld dL_law_930 (by omega) (by omega) rfl ?_
  refine jw_aload0 dL_law_931 ?_
  refine jw_iload3 dL_law_932 ?_
  refine jw_iconst dL_law_933 jv_c_iconst_2 ?_
  refine jw_iaddN dL_law_934 ?_
  refine jw_sld dL_law_935 (by omega) (by omega) rfl ?_
  refine jw_call (a := 64) (As := [.int (xs (i + 1)), .int (xs (i + 2))]) (rest := [.int (_)]) dL_law_936 okX5_team inX5_team seX5_team mlL_98 (ci := 5) (T := TX5) (N := 35) rfl (mk hM2.g) cM (by decide) rfl rfl (Nat.le_of_ble_eq_true rfl) (.inr ⟨ot_ow_law hn64, (ot_ow_i ot_ow_nil), hn153⟩) ?_
  refine jw_icmp_eq dL_law_939 (tgt := 1961) (by decide) (fun _ => ?_) (fun q => absurd rfl q)
  exact hV
set_option maxRecDepth 20000 in
theorem lw_case19 {nm : String} {Lx : Nat} {xs : Nat → Int32} {i : Nat} (hi : i + 6 ≤ Lx) (hL : Lx ≤ 3072) (hN : ot_Nx nm Lx xs i) : ot_At nm Lx xs i 944 := fun G I J Y Z E K hC hM => by
  obtain ⟨I2, J2, cC, hC2, hh⟩ := pc_members hC (xs (i + 1)) (xs (i + 2))
  have hM2 := ot_M_hi hM hh
  obtain ⟨G3, I3, J3, cM, hM3, hl, hgx⟩ := pm_members hM2 (xs (i + 1)) (xs (i + 2))
  have hC3 := ot_C_lo hC2 hl hgx
  have hn64 : 64 ≤ jv_n G := by have := ot_M_n hM2; omega
  have hn153 : jv_n G3 < 1000000 := by have := hM3.n; unfold ot_NM at this; omega
  obtain ⟨G', I', J', hV, hb⟩ := hN _ _ _ _ _ _ _ hC3 hM3
  refine ⟨G', I', J', ?_, hb⟩
  refine jw_aload1 dL_law_944 ?_
  refine jw_aload0 dL_law_945 ?_
  refine jw_iload3 dL_law_946 ?_
  refine jw_iconst dL_law_947 jv_c_iconst_1 ?_
  refine jw_iaddN dL_law_948 ?_
  refine jw_sld dL_law_949 (by omega) (by omega) rfl ?_
  refine jw_aload0 dL_law_950 ?_
  refine jw_iload3 dL_law_951 ?_
  refine jw_iconst dL_law_952 jv_c_iconst_2 ?_
  refine jw_iaddN dL_law_953 ?_
  refine jw_sld dL_law_954 (by omega) (by omega) rfl ?_
  refine jw_call (a := 1) (As := [.int (xs (i + 1)), .int (xs (i + 2))]) (rest := []) dL_law_955 okX4_members inX4_members seX4_members mlL_99 (ci := 4) (T := TX4) (N := 8) rfl (ck hC.g) cC (by decide) rfl rfl (Nat.le_of_ble_eq_true rfl) (.inl rfl) ?_
  refine jw_aload2 dL_law_958 ?_
  refine jw_aload0 dL_law_959 ?_
  refine jw_iload3 dL_law_960 ?_
  refine jw_iconst dL_law_961 jv_c_iconst_1 ?_
  refine jw_iaddN dL_law_962 ?_
  refine jw_sld dL_law_963 (by omega) (by omega) rfl ?_
  refine jw_aload0 dL_law_964 ?_
  refine jw_iload3 dL_law_965 ?_
  refine jw_iconst dL_law_966 jv_c_iconst_2 ?_
  refine jw_iaddN dL_law_967 ?_
  refine jw_sld dL_law_968 (by omega) (by omega) rfl ?_
  refine jw_call (a := 64) (As := [.int (xs (i + 1)), .int (xs (i + 2))]) (rest := [.int (_)]) dL_law_969 okX5_members inX5_members seX5_members mlL_102 (ci := 5) (T := TX5) (N := 35) rfl (mk hM2.g) cM (by decide) rfl rfl (Nat.le_of_ble_eq_true rfl) (.inr ⟨ot_ow_law hn64, (ot_ow_i ot_ow_nil), hn153⟩) ?_
  refine jw_icmp_eq dL_law_972 (tgt := 1961) (by decide) (fun _ => ?_) (fun q => absurd rfl q)
  exact hV
set_option maxRecDepth 20000 in
theorem lw_case20 {nm : String} {Lx : Nat} {xs : Nat → Int32} {i : Nat} (hi : i + 6 ≤ Lx) (hL : Lx ≤ 3072) (hN : ot_Nx nm Lx xs i) : ot_At nm Lx xs i 977 := fun G I J Y Z E K hC hM => by
  obtain ⟨I2, J2, cC, hC2, hh⟩ := pc_strength hC (xs (i + 1)) (xs (i + 2))
  have hM2 := ot_M_hi hM hh
  obtain ⟨G3, I3, J3, cM, hM3, hl, hgx⟩ := pm_strength hM2 (xs (i + 1)) (xs (i + 2))
  have hC3 := ot_C_lo hC2 hl hgx
  have hn64 : 64 ≤ jv_n G := by have := ot_M_n hM2; omega
  have hn153 : jv_n G3 < 1000000 := by have := hM3.n; unfold ot_NM at this; omega
  obtain ⟨G', I', J', hV, hb⟩ := hN _ _ _ _ _ _ _ hC3 hM3
  refine ⟨G', I', J', ?_, hb⟩
  refine jw_aload1 dL_law_977 ?_
  refine jw_aload0 dL_law_978 ?_
  refine jw_iload3 dL_law_979 ?_
  refine jw_iconst dL_law_980 jv_c_iconst_1 ?_
  refine jw_iaddN dL_law_981 ?_
  refine jw_sld dL_law_982 (by omega) (by omega) rfl ?_
  refine jw_aload0 dL_law_983 ?_
  refine jw_iload3 dL_law_984 ?_
  refine jw_iconst dL_law_985 jv_c_iconst_2 ?_
  refine jw_iaddN dL_law_986 ?_
  refine jw_sld dL_law_987 (by omega) (by omega) rfl ?_
  refine jw_call (a := 1) (As := [.int (xs (i + 1)), .int (xs (i + 2))]) (rest := []) dL_law_988 okX4_strength inX4_strength seX4_strength mlL_103 (ci := 4) (T := TX4) (N := 8) rfl (ck hC.g) cC (by decide) rfl rfl (Nat.le_of_ble_eq_true rfl) (.inl rfl) ?_
  refine jw_aload2 dL_law_991 ?_
  refine jw_aload0 dL_law_992 ?_
  refine jw_iload3 dL_law_993 ?_
  refine jw_iconst dL_law_994 jv_c_iconst_1 ?_
  refine jw_iaddN dL_law_995 ?_
  refine jw_sld dL_law_996 (by omega) (by omega) rfl ?_
  refine jw_aload0 dL_law_997 ?_
  refine jw_iload3 dL_law_998 ?_
  refine jw_iconst dL_law_999 jv_c_iconst_2 ?_
  refine jw_iaddN dL_law_1000 ?_
  refine jw_sld dL_law_1001 (by omega) (by omega) rfl ?_
  refine jw_call (a := 64) (As := [.int (xs (i + 1)), .int (xs (i + 2))]) (rest := [.int (_)]) dL_law_1002 okX5_strength inX5_strength seX5_strength mlL_106 (ci := 5) (T := TX5) (N := 35) rfl (mk hM2.g) cM (by decide) rfl rfl (Nat.le_of_ble_eq_true rfl) (.inr ⟨ot_ow_law hn64, (ot_ow_i ot_ow_nil), hn153⟩) ?_
  refine jw_icmp_eq dL_law_1005 (tgt := 1961) (by decide) (fun _ => ?_) (fun q => absurd rfl q)
  exact hV
set_option maxRecDepth 20000 in
theorem lw_case21 {nm : String} {Lx : Nat} {xs : Nat → Int32} {i : Nat} (hi : i + 6 ≤ Lx) (hL : Lx ≤ 3072) (hN : ot_Nx nm Lx xs i) : ot_At nm Lx xs i 1010 := fun G I J Y Z E K hC hM => by
  obtain ⟨I2, J2, cC, hC2, hh⟩ := pc_heaviest hC (xs (i + 1))
  have hM2 := ot_M_hi hM hh
  obtain ⟨G3, I3, J3, cM, hM3, hl, hgx⟩ := pm_heaviest hM2 (xs (i + 1))
  have hC3 := ot_C_lo hC2 hl hgx
  have hn64 : 64 ≤ jv_n G := by have := ot_M_n hM2; omega
  have hn153 : jv_n G3 < 1000000 := by have := hM3.n; unfold ot_NM at this; omega
  obtain ⟨G', I', J', hV, hb⟩ := hN _ _ _ _ _ _ _ hC3 hM3
  refine ⟨G', I', J', ?_, hb⟩
  refine jw_aload1 dL_law_1010 ?_
  refine jw_aload0 dL_law_1011 ?_
  refine jw_iload3 dL_law_1012 ?_
  refine jw_iconst dL_law_1013 jv_c_iconst_1 ?_
  refine jw_iaddN dL_law_1014 ?_
  refine jw_sld dL_law_1015 (by omega) (by omega) rfl ?_
  refine jw_call (a := 1) (As := [.int (xs (i + 1))]) (rest := []) dL_law_1016 okX4_heaviest inX4_heaviest seX4_heaviest mlL_107 (ci := 4) (T := TX4) (N := 8) rfl (ck hC.g) cC (by decide) rfl rfl (Nat.le_of_ble_eq_true rfl) (.inl rfl) ?_
  refine jw_aload2 dL_law_1019 ?_
  refine jw_aload0 dL_law_1020 ?_
  refine jw_iload3 dL_law_1021 ?_
  refine jw_iconst dL_law_1022 jv_c_iconst_1 ?_
  refine jw_iaddN dL_law_1023 ?_
  refine jw_sld dL_law_1024 (by omega) (by omega) rfl ?_
  refine jw_call (a := 64) (As := [.int (xs (i + 1))]) (rest := [.int (_)]) dL_law_1025 okX5_heaviest inX5_heaviest seX5_heaviest mlL_110 (ci := 5) (T := TX5) (N := 35) rfl (mk hM2.g) cM (by decide) rfl rfl (Nat.le_of_ble_eq_true rfl) (.inr ⟨ot_ow_law hn64, (ot_ow_i ot_ow_nil), hn153⟩) ?_
  refine jw_icmp_eq dL_law_1028 (tgt := 1961) (by decide) (fun _ => ?_) (fun q => absurd rfl q)
  exact hV
set_option maxRecDepth 20000 in
theorem lw_case22 {nm : String} {Lx : Nat} {xs : Nat → Int32} {i : Nat} (hi : i + 6 ≤ Lx) (hL : Lx ≤ 3072) (hN : ot_Nx nm Lx xs i) : ot_At nm Lx xs i 1033 := fun G I J Y Z E K hC hM => by
  obtain ⟨I2, J2, cC, hC2, hh⟩ := pc_turned hC (xs (i + 1))
  have hM2 := ot_M_hi hM hh
  obtain ⟨G3, I3, J3, cM, hM3, hl, hgx⟩ := pm_turned hM2 (xs (i + 1))
  have hC3 := ot_C_lo hC2 hl hgx
  have hn64 : 64 ≤ jv_n G := by have := ot_M_n hM2; omega
  have hn153 : jv_n G3 < 1000000 := by have := hM3.n; unfold ot_NM at this; omega
  obtain ⟨G', I', J', hV, hb⟩ := hN _ _ _ _ _ _ _ hC3 hM3
  refine ⟨G', I', J', ?_, hb⟩
  refine jw_aload1 dL_law_1033 ?_
  refine jw_aload0 dL_law_1034 ?_
  refine jw_iload3 dL_law_1035 ?_
  refine jw_iconst dL_law_1036 jv_c_iconst_1 ?_
  refine jw_iaddN dL_law_1037 ?_
  refine jw_sld dL_law_1038 (by omega) (by omega) rfl ?_
  refine jw_call (a := 1) (As := [.int (xs (i + 1))]) (rest := []) dL_law_1039 okX4_turned inX4_turned seX4_turned mlL_111 (ci := 4) (T := TX4) (N := 8) rfl (ck hC.g) cC (by decide) rfl rfl (Nat.le_of_ble_eq_true rfl) (.inl rfl) ?_
  refine jw_aload2 dL_law_1042 ?_
  refine jw_aload0 dL_law_1043 ?_
  refine jw_iload3 dL_law_1044 ?_
  refine jw_iconst dL_law_1045 jv_c_iconst_1 ?_
  refine jw_iaddN dL_law_1046 ?_
  refine jw_sld dL_law_1047 (by omega) (by omega) rfl ?_
  refine jw_call (a := 64) (As := [.int (xs (i + 1))]) (rest := [.int (_)]) dL_law_1048 okX5_turned inX5_turned seX5_turned mlL_114 (ci := 5) (T := TX5) (N := 35) rfl (mk hM2.g) cM (by decide) rfl rfl (Nat.le_of_ble_eq_true rfl) (.inr ⟨ot_ow_law hn64, (ot_ow_i ot_ow_nil), hn153⟩) ?_
  refine jw_icmp_eq dL_law_1051 (tgt := 1961) (by decide) (fun _ => ?_) (fun q => absurd rfl q)
  exact hV
set_option maxRecDepth 20000 in
theorem lw_case23 {nm : String} {Lx : Nat} {xs : Nat → Int32} {i : Nat} (hi : i + 6 ≤ Lx) (hL : Lx ≤ 3072) (hN : ot_Nx nm Lx xs i) : ot_At nm Lx xs i 1056 := fun G I J Y Z E K hC hM => by
  obtain ⟨I2, J2, cC, hC2, hh⟩ := pc_unlike hC (xs (i + 1)) (xs (i + 2))
  have hM2 := ot_M_hi hM hh
  obtain ⟨G3, I3, J3, cM, hM3, hl, hgx⟩ := pm_unlike hM2 (xs (i + 1)) (xs (i + 2))
  have hC3 := ot_C_lo hC2 hl hgx
  have hn64 : 64 ≤ jv_n G := by have := ot_M_n hM2; omega
  have hn153 : jv_n G3 < 1000000 := by have := hM3.n; unfold ot_NM at this; omega
  obtain ⟨G', I', J', hV, hb⟩ := hN _ _ _ _ _ _ _ hC3 hM3
  refine ⟨G', I', J', ?_, hb⟩
  refine jw_aload1 dL_law_1056 ?_
  refine jw_aload0 dL_law_1057 ?_
  refine jw_iload3 dL_law_1058 ?_
  refine jw_iconst dL_law_1059 jv_c_iconst_1 ?_
  refine jw_iaddN dL_law_1060 ?_
  refine jw_sld dL_law_1061 (by omega) (by omega) rfl ?_
  refine jw_aload0 dL_law_1062 ?_
  refine jw_iload3 dL_law_1063 ?_
  refine jw_iconst dL_law_1064 jv_c_iconst_2 ?_
  refine jw_iaddN dL_law_1065 ?_
  refine jw_sld dL_law_1066 (by omega) (by omega) rfl ?_
  refine jw_call (a := 1) (As := [.int (xs (i + 1)), .int (xs (i + 2))]) (rest := []) dL_law_1067 okX4_unlike inX4_unlike seX4_unlike mlL_115 (ci := 4) (T := TX4) (N := 8) rfl (ck hC.g) cC (by decide) rfl rfl (Nat.le_of_ble_eq_true rfl) (.inl rfl) ?_
  refine jw_aload2 dL_law_1070 ?_
  refine jw_aload0 dL_law_1071 ?_
  refine jw_iload3 dL_law_1072 ?_
  refine jw_iconst dL_law_1073 jv_c_iconst_1 ?_
  refine jw_iaddN dL_law_1074 ?_
  refine jw_sld dL_law_1075 (by omega) (by omega) rfl ?_
  refine jw_aload0 dL_law_1076 ?_
  refine jw_iload3 dL_law_1077 ?_
  refine jw_iconst dL_law_1078 jv_c_iconst_2 ?_
  refine jw_iaddN dL_law_1079 ?_
  refine jw_sld dL_law_1080 (by omega) (by omega) rfl ?_
  refine jw_call (a := 64) (As := [.int (xs (i + 1)), .int (xs (i + 2))]) (rest := [.int (_)]) dL_law_1081 okX5_unlike inX5_unlike seX5_unlike mlL_118 (ci := 5) (T := TX5) (N := 35) rfl (mk hM2.g) cM (by decide) rfl rfl (Nat.le_of_ble_eq_true rfl) (.inr ⟨ot_ow_law hn64, (ot_ow_i ot_ow_nil), hn153⟩) ?_
  refine jw_icmp_eq dL_law_1084 (tgt := 1961) (by decide) (fun _ => ?_) (fun q => absurd rfl q)
  exact hV
set_option maxRecDepth 20000 in
theorem lw_case24 {nm : String} {Lx : Nat} {xs : Nat → Int32} {i : Nat} (hi : i + 6 ≤ Lx) (hL : Lx ≤ 3072) (hN : ot_Nx nm Lx xs i) : ot_At nm Lx xs i 1089 := fun G I J Y Z E K hC hM => by
  obtain ⟨I2, J2, cC, hC2, hh⟩ := pc_unmet hC (xs (i + 1))
  have hM2 := ot_M_hi hM hh
  obtain ⟨G3, I3, J3, cM, hM3, hl, hgx⟩ := pm_unmet hM2 (xs (i + 1))
  have hC3 := ot_C_lo hC2 hl hgx
  have hn64 : 64 ≤ jv_n G := by have := ot_M_n hM2; omega
  have hn153 : jv_n G3 < 1000000 := by have := hM3.n; unfold ot_NM at this; omega
  obtain ⟨G', I', J', hV, hb⟩ := hN _ _ _ _ _ _ _ hC3 hM3
  refine ⟨G', I', J', ?_, hb⟩
  refine jw_aload1 dL_law_1089 ?_
  refine jw_aload0 dL_law_1090 ?_
  refine jw_iload3 dL_law_1091 ?_
  refine jw_iconst dL_law_1092 jv_c_iconst_1 ?_
  refine jw_iaddN dL_law_1093 ?_
  refine jw_sld dL_law_1094 (by omega) (by omega) rfl ?_
  refine jw_call (a := 1) (As := [.int (xs (i + 1))]) (rest := []) dL_law_1095 okX4_unmet inX4_unmet seX4_unmet mlL_119 (ci := 4) (T := TX4) (N := 8) rfl (ck hC.g) cC (by decide) rfl rfl (Nat.le_of_ble_eq_true rfl) (.inl rfl) ?_
  refine jw_aload2 dL_law_1098 ?_
  refine jw_aload0 dL_law_1099 ?_
  refine jw_iload3 dL_law_1100 ?_
  refine jw_iconst dL_law_1101 jv_c_iconst_1 ?_
  refine jw_iaddN dL_law_1102 ?_
  refine jw_sld dL_law_1103 (by omega) (by omega) rfl ?_
  refine jw_call (a := 64) (As := [.int (xs (i + 1))]) (rest := [.int (_)]) dL_law_1104 okX5_unmet inX5_unmet seX5_unmet mlL_122 (ci := 5) (T := TX5) (N := 35) rfl (mk hM2.g) cM (by decide) rfl rfl (Nat.le_of_ble_eq_true rfl) (.inr ⟨ot_ow_law hn64, (ot_ow_i ot_ow_nil), hn153⟩) ?_
  refine jw_icmp_eq dL_law_1107 (tgt := 1961) (by decide) (fun _ => ?_) (fun q => absurd rfl q)
  exact hV
set_option maxRecDepth 20000 in
theorem lw_case25 {nm : String} {Lx : Nat} {xs : Nat → Int32} {i : Nat} (hi : i + 6 ≤ Lx) (hL : Lx ≤ 3072) (hN : ot_Nx nm Lx xs i) : ot_At nm Lx xs i 1112 := fun G I J Y Z E K hC hM => by
  obtain ⟨I2, J2, cC, hC2, hh⟩ := pc_friendsOf hC (xs (i + 1))
  have hM2 := ot_M_hi hM hh
  obtain ⟨G3, I3, J3, cM, hM3, hl, hgx⟩ := pm_friendsOf hM2 (xs (i + 1))
  have hC3 := ot_C_lo hC2 hl hgx
  have hn64 : 64 ≤ jv_n G := by have := ot_M_n hM2; omega
  have hn153 : jv_n G3 < 1000000 := by have := hM3.n; unfold ot_NM at this; omega
  obtain ⟨G', I', J', hV, hb⟩ := hN _ _ _ _ _ _ _ hC3 hM3
  refine ⟨G', I', J', ?_, hb⟩
  refine jw_aload1 dL_law_1112 ?_
  refine jw_aload0 dL_law_1113 ?_
  refine jw_iload3 dL_law_1114 ?_
  refine jw_iconst dL_law_1115 jv_c_iconst_1 ?_
  refine jw_iaddN dL_law_1116 ?_
  refine jw_sld dL_law_1117 (by omega) (by omega) rfl ?_
  refine jw_call (a := 1) (As := [.int (xs (i + 1))]) (rest := []) dL_law_1118 okX4_friendsOf inX4_friendsOf seX4_friendsOf mlL_123 (ci := 4) (T := TX4) (N := 8) rfl (ck hC.g) cC (by decide) rfl rfl (Nat.le_of_ble_eq_true rfl) (.inl rfl) ?_
  refine jw_aload2 dL_law_1121 ?_
  refine jw_aload0 dL_law_1122 ?_
  refine jw_iload3 dL_law_1123 ?_
  refine jw_iconst dL_law_1124 jv_c_iconst_1 ?_
  refine jw_iaddN dL_law_1125 ?_
  refine jw_sld dL_law_1126 (by omega) (by omega) rfl ?_
  refine jw_call (a := 64) (As := [.int (xs (i + 1))]) (rest := [.int (_)]) dL_law_1127 okX5_friendsOf inX5_friendsOf seX5_friendsOf mlL_126 (ci := 5) (T := TX5) (N := 35) rfl (mk hM2.g) cM (by decide) rfl rfl (Nat.le_of_ble_eq_true rfl) (.inr ⟨ot_ow_law hn64, (ot_ow_i ot_ow_nil), hn153⟩) ?_
  refine jw_icmp_eq dL_law_1130 (tgt := 1961) (by decide) (fun _ => ?_) (fun q => absurd rfl q)
  exact hV
set_option maxRecDepth 20000 in
theorem lw_case26 {nm : String} {Lx : Nat} {xs : Nat → Int32} {i : Nat} (hi : i + 6 ≤ Lx) (hL : Lx ≤ 3072) (hN : ot_Nx nm Lx xs i) : ot_At nm Lx xs i 1135 := fun G I J Y Z E K hC hM => by
  obtain ⟨I2, J2, cC, hC2, hh⟩ := pc_groups hC 
  have hM2 := ot_M_hi hM hh
  obtain ⟨G3, I3, J3, cM, hM3, hl, hgx⟩ := pm_groups hM2 
  have hC3 := ot_C_lo hC2 hl hgx
  have hn64 : 64 ≤ jv_n G := by have := ot_M_n hM2; omega
  have hn153 : jv_n G3 < 1000000 := by have := hM3.n; unfold ot_NM at this; omega
  obtain ⟨G', I', J', hV, hb⟩ := hN _ _ _ _ _ _ _ hC3 hM3
  refine ⟨G', I', J', ?_, hb⟩
  refine jw_aload1 dL_law_1135 ?_
  refine jw_call (a := 1) (As := []) (rest := []) dL_law_1136 okX4_groups inX4_groups seX4_groups mlL_127 (ci := 4) (T := TX4) (N := 8) rfl (ck hC.g) cC (by decide) rfl rfl (Nat.le_of_ble_eq_true rfl) (.inl rfl) ?_
  refine jw_aload2 dL_law_1139 ?_
  refine jw_call (a := 64) (As := []) (rest := [.int (_)]) dL_law_1140 okX5_groups inX5_groups seX5_groups mlL_130 (ci := 5) (T := TX5) (N := 35) rfl (mk hM2.g) cM (by decide) rfl rfl (Nat.le_of_ble_eq_true rfl) (.inr ⟨ot_ow_law hn64, (ot_ow_i ot_ow_nil), hn153⟩) ?_
  refine jw_icmp_eq dL_law_1143 (tgt := 1961) (by decide) (fun _ => ?_) (fun q => absurd rfl q)
  exact hV
set_option maxRecDepth 20000 in
theorem lw_case27 {nm : String} {Lx : Nat} {xs : Nat → Int32} {i : Nat} (hi : i + 6 ≤ Lx) (hL : Lx ≤ 3072) (hN : ot_Nx nm Lx xs i) : ot_At nm Lx xs i 1148 := fun G I J Y Z E K hC hM => by
  obtain ⟨I2, J2, cC, hC2, hh⟩ := pc_conflict hC 
  have hM2 := ot_M_hi hM hh
  obtain ⟨G3, I3, J3, cM, hM3, hl, hgx⟩ := pm_conflict hM2 
  have hC3 := ot_C_lo hC2 hl hgx
  have hn64 : 64 ≤ jv_n G := by have := ot_M_n hM2; omega
  have hn153 : jv_n G3 < 1000000 := by have := hM3.n; unfold ot_NM at this; omega
  obtain ⟨G', I', J', hV, hb⟩ := hN _ _ _ _ _ _ _ hC3 hM3
  refine ⟨G', I', J', ?_, hb⟩
  refine jw_aload1 dL_law_1148 ?_
  refine jw_call (a := 1) (As := []) (rest := []) dL_law_1149 okX4_conflict inX4_conflict seX4_conflict mlL_131 (ci := 4) (T := TX4) (N := 8) rfl (ck hC.g) cC (by decide) rfl rfl (Nat.le_of_ble_eq_true rfl) (.inl rfl) ?_
  refine jw_aload2 dL_law_1152 ?_
  refine jw_call (a := 64) (As := []) (rest := [.int (_)]) dL_law_1153 okX5_conflict inX5_conflict seX5_conflict mlL_134 (ci := 5) (T := TX5) (N := 35) rfl (mk hM2.g) cM (by decide) rfl rfl (Nat.le_of_ble_eq_true rfl) (.inr ⟨ot_ow_law hn64, (ot_ow_i ot_ow_nil), hn153⟩) ?_
  refine jw_icmp_eq dL_law_1156 (tgt := 1961) (by decide) (fun _ => ?_) (fun q => absurd rfl q)
  exact hV
set_option maxRecDepth 20000 in
theorem lw_case28 {nm : String} {Lx : Nat} {xs : Nat → Int32} {i : Nat} (hi : i + 6 ≤ Lx) (hL : Lx ≤ 3072) (hN : ot_Nx nm Lx xs i) : ot_At nm Lx xs i 1161 := fun G I J Y Z E K hC hM => by
  obtain ⟨I2, J2, cC, hC2, hh⟩ := pc_changes hC (xs (i + 1)) (xs (i + 2))
  have hM2 := ot_M_hi hM hh
  obtain ⟨G3, I3, J3, cM, hM3, hl, hgx⟩ := pm_changes hM2 (xs (i + 1)) (xs (i + 2))
  have hC3 := ot_C_lo hC2 hl hgx
  have hn64 : 64 ≤ jv_n G := by have := ot_M_n hM2; omega
  have hn153 : jv_n G3 < 1000000 := by have := hM3.n; unfold ot_NM at this; omega
  obtain ⟨G', I', J', hV, hb⟩ := hN _ _ _ _ _ _ _ hC3 hM3
  refine ⟨G', I', J', ?_, hb⟩
  refine jw_aload1 dL_law_1161 ?_
  refine jw_aload0 dL_law_1162 ?_
  refine jw_iload3 dL_law_1163 ?_
  refine jw_iconst dL_law_1164 jv_c_iconst_1 ?_
  refine jw_iaddN dL_law_1165 ?_
  refine jw_sld dL_law_1166 (by omega) (by omega) rfl ?_
  refine jw_aload0 dL_law_1167 ?_
  refine jw_iload3 dL_law_1168 ?_
  refine jw_iconst dL_law_1169 jv_c_iconst_2 ?_
  refine jw_iaddN dL_law_1170 ?_
  refine jw_sld dL_law_1171 (by omega) (by omega) rfl ?_
  refine jw_call (a := 1) (As := [.int (xs (i + 1)), .int (xs (i + 2))]) (rest := []) dL_law_1172 okX4_changes inX4_changes seX4_changes mlL_135 (ci := 4) (T := TX4) (N := 8) rfl (ck hC.g) cC (by decide) rfl rfl (Nat.le_of_ble_eq_true rfl) (.inl rfl) ?_
  refine jw_aload2 dL_law_1175 ?_
  refine jw_aload0 dL_law_1176 ?_
  refine jw_iload3 dL_law_1177 ?_
  refine jw_iconst dL_law_1178 jv_c_iconst_1 ?_
  refine jw_iaddN dL_law_1179 ?_
  refine jw_sld dL_law_1180 (by omega) (by omega) rfl ?_
  refine jw_aload0 dL_law_1181 ?_
  refine jw_iload3 dL_law_1182 ?_
  refine jw_iconst dL_law_1183 jv_c_iconst_2 ?_
  refine jw_iaddN dL_law_1184 ?_
  refine jw_sld dL_law_1185 (by omega) (by omega) rfl ?_
  refine jw_call (a := 64) (As := [.int (xs (i + 1)), .int (xs (i + 2))]) (rest := [.int (_)]) dL_law_1186 okX5_changes inX5_changes seX5_changes mlL_138 (ci := 5) (T := TX5) (N := 35) rfl (mk hM2.g) cM (by decide) rfl rfl (Nat.le_of_ble_eq_true rfl) (.inr ⟨ot_ow_law hn64, (ot_ow_i ot_ow_nil), hn153⟩) ?_
  refine jw_icmp_eq dL_law_1189 (tgt := 1961) (by decide) (fun _ => ?_) (fun q => absurd rfl q)
  exact hV
set_option maxRecDepth 20000 in
theorem lw_case29 {nm : String} {Lx : Nat} {xs : Nat → Int32} {i : Nat} (hi : i + 6 ≤ Lx) (hL : Lx ≤ 3072) (hN : ot_Nx nm Lx xs i) : ot_At nm Lx xs i 1194 := fun G I J Y Z E K hC hM => by
  obtain ⟨I2, J2, cC, hC2, hh⟩ := pc_place hC (xs (i + 1))
  have hM2 := ot_M_hi hM hh
  obtain ⟨G3, I3, J3, cM, hM3, hl, hgx⟩ := pm_place hM2 (xs (i + 1))
  have hC3 := ot_C_lo hC2 hl hgx
  have hn64 : 64 ≤ jv_n G := by have := ot_M_n hM2; omega
  have hn153 : jv_n G3 < 1000000 := by have := hM3.n; unfold ot_NM at this; omega
  obtain ⟨G', I', J', hV, hb⟩ := hN _ _ _ _ _ _ _ hC3 hM3
  refine ⟨G', I', J', ?_, hb⟩
  refine jw_aload1 dL_law_1194 ?_
  refine jw_aload0 dL_law_1195 ?_
  refine jw_iload3 dL_law_1196 ?_
  refine jw_iconst dL_law_1197 jv_c_iconst_1 ?_
  refine jw_iaddN dL_law_1198 ?_
  refine jw_sld dL_law_1199 (by omega) (by omega) rfl ?_
  refine jw_call (a := 1) (As := [.int (xs (i + 1))]) (rest := []) dL_law_1200 okX4_place inX4_place seX4_place mlL_139 (ci := 4) (T := TX4) (N := 8) rfl (ck hC.g) cC (by decide) rfl rfl (Nat.le_of_ble_eq_true rfl) (.inl rfl) ?_
  refine jw_aload2 dL_law_1203 ?_
  refine jw_aload0 dL_law_1204 ?_
  refine jw_iload3 dL_law_1205 ?_
  refine jw_iconst dL_law_1206 jv_c_iconst_1 ?_
  refine jw_iaddN dL_law_1207 ?_
  refine jw_sld dL_law_1208 (by omega) (by omega) rfl ?_
  refine jw_call (a := 64) (As := [.int (xs (i + 1))]) (rest := [.int (_)]) dL_law_1209 okX5_place inX5_place seX5_place mlL_142 (ci := 5) (T := TX5) (N := 35) rfl (mk hM2.g) cM (by decide) rfl rfl (Nat.le_of_ble_eq_true rfl) (.inr ⟨ot_ow_law hn64, (ot_ow_i ot_ow_nil), hn153⟩) ?_
  refine jw_icmp_eq dL_law_1212 (tgt := 1961) (by decide) (fun _ => ?_) (fun q => absurd rfl q)
  exact hV
set_option maxRecDepth 20000 in
theorem lw_case30 {nm : String} {Lx : Nat} {xs : Nat → Int32} {i : Nat} (hi : i + 6 ≤ Lx) (hL : Lx ≤ 3072) (hN : ot_Nx nm Lx xs i) : ot_At nm Lx xs i 1217 := fun G I J Y Z E K hC hM => by
  obtain ⟨I2, J2, cC, hC2, hh⟩ := pc_value hC (xs (i + 1))
  have hM2 := ot_M_hi hM hh
  obtain ⟨G3, I3, J3, cM, hM3, hl, hgx⟩ := pm_value hM2 (xs (i + 1))
  have hC3 := ot_C_lo hC2 hl hgx
  have hn64 : 64 ≤ jv_n G := by have := ot_M_n hM2; omega
  have hn153 : jv_n G3 < 1000000 := by have := hM3.n; unfold ot_NM at this; omega
  obtain ⟨G', I', J', hV, hb⟩ := hN _ _ _ _ _ _ _ hC3 hM3
  refine ⟨G', I', J', ?_, hb⟩
  refine jw_aload1 dL_law_1217 ?_
  refine jw_aload0 dL_law_1218 ?_
  refine jw_iload3 dL_law_1219 ?_
  refine jw_iconst dL_law_1220 jv_c_iconst_1 ?_
  refine jw_iaddN dL_law_1221 ?_
  refine jw_sld dL_law_1222 (by omega) (by omega) rfl ?_
  refine jw_call (a := 1) (As := [.int (xs (i + 1))]) (rest := []) dL_law_1223 okX4_value inX4_value seX4_value mlL_143 (ci := 4) (T := TX4) (N := 8) rfl (ck hC.g) cC (by decide) rfl rfl (Nat.le_of_ble_eq_true rfl) (.inl rfl) ?_
  refine jw_aload2 dL_law_1226 ?_
  refine jw_aload0 dL_law_1227 ?_
  refine jw_iload3 dL_law_1228 ?_
  refine jw_iconst dL_law_1229 jv_c_iconst_1 ?_
  refine jw_iaddN dL_law_1230 ?_
  refine jw_sld dL_law_1231 (by omega) (by omega) rfl ?_
  refine jw_call (a := 64) (As := [.int (xs (i + 1))]) (rest := [.int (_)]) dL_law_1232 okX5_value inX5_value seX5_value mlL_146 (ci := 5) (T := TX5) (N := 35) rfl (mk hM2.g) cM (by decide) rfl rfl (Nat.le_of_ble_eq_true rfl) (.inr ⟨ot_ow_law hn64, (ot_ow_i ot_ow_nil), hn153⟩) ?_
  refine jw_icmp_eq dL_law_1235 (tgt := 1961) (by decide) (fun _ => ?_) (fun q => absurd rfl q)
  exact hV
set_option maxRecDepth 20000 in
theorem lw_case31 {nm : String} {Lx : Nat} {xs : Nat → Int32} {i : Nat} (hi : i + 6 ≤ Lx) (hL : Lx ≤ 3072) (hN : ot_Nx nm Lx xs i) : ot_At nm Lx xs i 1240 := fun G I J Y Z E K hC hM => by
  obtain ⟨I2, J2, cC, hC2, hh⟩ := pc_met hC (xs (i + 1)) (xs (i + 2))
  have hM2 := ot_M_hi hM hh
  obtain ⟨G3, I3, J3, cM, hM3, hl, hgx⟩ := pm_met hM2 (xs (i + 1)) (xs (i + 2))
  have hC3 := ot_C_lo hC2 hl hgx
  have hn64 : 64 ≤ jv_n G := by have := ot_M_n hM2; omega
  have hn153 : jv_n G3 < 1000000 := by have := hM3.n; unfold ot_NM at this; omega
  obtain ⟨G', I', J', hV, hb⟩ := hN _ _ _ _ _ _ _ hC3 hM3
  refine ⟨G', I', J', ?_, hb⟩
  refine jw_aload1 dL_law_1240 ?_
  refine jw_aload0 dL_law_1241 ?_
  refine jw_iload3 dL_law_1242 ?_
  refine jw_iconst dL_law_1243 jv_c_iconst_1 ?_
  refine jw_iaddN dL_law_1244 ?_
  refine jw_sld dL_law_1245 (by omega) (by omega) rfl ?_
  refine jw_aload0 dL_law_1246 ?_
  refine jw_iload3 dL_law_1247 ?_
  refine jw_iconst dL_law_1248 jv_c_iconst_2 ?_
  refine jw_iaddN dL_law_1249 ?_
  refine jw_sld dL_law_1250 (by omega) (by omega) rfl ?_
  refine jw_call (a := 1) (As := [.int (xs (i + 1)), .int (xs (i + 2))]) (rest := []) dL_law_1251 okX4_met inX4_met seX4_met mlL_147 (ci := 4) (T := TX4) (N := 8) rfl (ck hC.g) cC (by decide) rfl rfl (Nat.le_of_ble_eq_true rfl) (.inl rfl) ?_
  refine jw_aload2 dL_law_1254 ?_
  refine jw_aload0 dL_law_1255 ?_
  refine jw_iload3 dL_law_1256 ?_
  refine jw_iconst dL_law_1257 jv_c_iconst_1 ?_
  refine jw_iaddN dL_law_1258 ?_
  refine jw_sld dL_law_1259 (by omega) (by omega) rfl ?_
  refine jw_aload0 dL_law_1260 ?_
  refine jw_iload3 dL_law_1261 ?_
  refine jw_iconst dL_law_1262 jv_c_iconst_2 ?_
  refine jw_iaddN dL_law_1263 ?_
  refine jw_sld dL_law_1264 (by omega) (by omega) rfl ?_
  refine jw_call (a := 64) (As := [.int (xs (i + 1)), .int (xs (i + 2))]) (rest := [.int (_)]) dL_law_1265 okX5_met inX5_met seX5_met mlL_150 (ci := 5) (T := TX5) (N := 35) rfl (mk hM2.g) cM (by decide) rfl rfl (Nat.le_of_ble_eq_true rfl) (.inr ⟨ot_ow_law hn64, (ot_ow_i ot_ow_nil), hn153⟩) ?_
  refine jw_icmp_eq dL_law_1268 (tgt := 1961) (by decide) (fun _ => ?_) (fun q => absurd rfl q)
  exact hV
set_option maxRecDepth 20000 in
theorem lw_case32 {nm : String} {Lx : Nat} {xs : Nat → Int32} {i : Nat} (hi : i + 6 ≤ Lx) (hL : Lx ≤ 3072) (hN : ot_Nx nm Lx xs i) : ot_At nm Lx xs i 1273 := fun G I J Y Z E K hC hM => by
  obtain ⟨I2, J2, cC, hC2, hh⟩ := pc_best hC (xs (i + 1))
  have hM2 := ot_M_hi hM hh
  obtain ⟨G3, I3, J3, cM, hM3, hl, hgx⟩ := pm_best hM2 (xs (i + 1))
  have hC3 := ot_C_lo hC2 hl hgx
  have hn64 : 64 ≤ jv_n G := by have := ot_M_n hM2; omega
  have hn153 : jv_n G3 < 1000000 := by have := hM3.n; unfold ot_NM at this; omega
  obtain ⟨G', I', J', hV, hb⟩ := hN _ _ _ _ _ _ _ hC3 hM3
  refine ⟨G', I', J', ?_, hb⟩
  refine jw_aload1 dL_law_1273 ?_
  refine jw_aload0 dL_law_1274 ?_
  refine jw_iload3 dL_law_1275 ?_
  refine jw_iconst dL_law_1276 jv_c_iconst_1 ?_
  refine jw_iaddN dL_law_1277 ?_
  refine jw_sld dL_law_1278 (by omega) (by omega) rfl ?_
  refine jw_call (a := 1) (As := [.int (xs (i + 1))]) (rest := []) dL_law_1279 okX4_best inX4_best seX4_best mlL_151 (ci := 4) (T := TX4) (N := 8) rfl (ck hC.g) cC (by decide) rfl rfl (Nat.le_of_ble_eq_true rfl) (.inl rfl) ?_
  refine jw_aload2 dL_law_1282 ?_
  refine jw_aload0 dL_law_1283 ?_
  refine jw_iload3 dL_law_1284 ?_
  refine jw_iconst dL_law_1285 jv_c_iconst_1 ?_
  refine jw_iaddN dL_law_1286 ?_
  refine jw_sld dL_law_1287 (by omega) (by omega) rfl ?_
  refine jw_call (a := 64) (As := [.int (xs (i + 1))]) (rest := [.int (_)]) dL_law_1288 okX5_best inX5_best seX5_best mlL_154 (ci := 5) (T := TX5) (N := 35) rfl (mk hM2.g) cM (by decide) rfl rfl (Nat.le_of_ble_eq_true rfl) (.inr ⟨ot_ow_law hn64, (ot_ow_i ot_ow_nil), hn153⟩) ?_
  refine jw_icmp_eq dL_law_1291 (tgt := 1961) (by decide) (fun _ => ?_) (fun q => absurd rfl q)
  exact hV
set_option maxRecDepth 20000 in
theorem lw_case33 {nm : String} {Lx : Nat} {xs : Nat → Int32} {i : Nat} (hi : i + 6 ≤ Lx) (hL : Lx ≤ 3072) (hN : ot_Nx nm Lx xs i) : ot_At nm Lx xs i 1296 := fun G I J Y Z E K hC hM => by
  obtain ⟨I2, J2, cC, hC2, hh⟩ := pc_even hC (xs (i + 1))
  have hM2 := ot_M_hi hM hh
  obtain ⟨G3, I3, J3, cM, hM3, hl, hgx⟩ := pm_even hM2 (xs (i + 1))
  have hC3 := ot_C_lo hC2 hl hgx
  have hn64 : 64 ≤ jv_n G := by have := ot_M_n hM2; omega
  have hn153 : jv_n G3 < 1000000 := by have := hM3.n; unfold ot_NM at this; omega
  obtain ⟨G', I', J', hV, hb⟩ := hN _ _ _ _ _ _ _ hC3 hM3
  refine ⟨G', I', J', ?_, hb⟩
  refine jw_aload1 dL_law_1296 ?_
  refine jw_aload0 dL_law_1297 ?_
  refine jw_iload3 dL_law_1298 ?_
  refine jw_iconst dL_law_1299 jv_c_iconst_1 ?_
  refine jw_iaddN dL_law_1300 ?_
  refine jw_sld dL_law_1301 (by omega) (by omega) rfl ?_
  refine jw_call (a := 1) (As := [.int (xs (i + 1))]) (rest := []) dL_law_1302 okX4_even inX4_even seX4_even mlL_155 (ci := 4) (T := TX4) (N := 8) rfl (ck hC.g) cC (by decide) rfl rfl (Nat.le_of_ble_eq_true rfl) (.inl rfl) ?_
  refine jw_aload2 dL_law_1305 ?_
  refine jw_aload0 dL_law_1306 ?_
  refine jw_iload3 dL_law_1307 ?_
  refine jw_iconst dL_law_1308 jv_c_iconst_1 ?_
  refine jw_iaddN dL_law_1309 ?_
  refine jw_sld dL_law_1310 (by omega) (by omega) rfl ?_
  refine jw_call (a := 64) (As := [.int (xs (i + 1))]) (rest := [.int (_)]) dL_law_1311 okX5_even inX5_even seX5_even mlL_158 (ci := 5) (T := TX5) (N := 35) rfl (mk hM2.g) cM (by decide) rfl rfl (Nat.le_of_ble_eq_true rfl) (.inr ⟨ot_ow_law hn64, (ot_ow_i ot_ow_nil), hn153⟩) ?_
  refine jw_icmp_eq dL_law_1314 (tgt := 1961) (by decide) (fun _ => ?_) (fun q => absurd rfl q)
  exact hV
set_option maxRecDepth 20000 in
theorem lw_case34 {nm : String} {Lx : Nat} {xs : Nat → Int32} {i : Nat} (hi : i + 6 ≤ Lx) (hL : Lx ≤ 3072) (hN : ot_Nx nm Lx xs i) : ot_At nm Lx xs i 1319 := fun G I J Y Z E K hC hM => by
  obtain ⟨I2, J2, cC, hC2, hh⟩ := pc_change hC (xs (i + 1))
  have hM2 := ot_M_hi hM hh
  obtain ⟨G3, I3, J3, cM, hM3, hl, hgx⟩ := pm_change hM2 (xs (i + 1))
  have hC3 := ot_C_lo hC2 hl hgx
  have hn64 : 64 ≤ jv_n G := by have := ot_M_n hM2; omega
  have hn153 : jv_n G3 < 1000000 := by have := hM3.n; unfold ot_NM at this; omega
  obtain ⟨G', I', J', hV, hb⟩ := hN _ _ _ _ _ _ _ hC3 hM3
  refine ⟨G', I', J', ?_, hb⟩
  refine jw_aload1 dL_law_1319 ?_
  refine jw_aload0 dL_law_1320 ?_
  refine jw_iload3 dL_law_1321 ?_
  refine jw_iconst dL_law_1322 jv_c_iconst_1 ?_
  refine jw_iaddN dL_law_1323 ?_
  refine jw_sld dL_law_1324 (by omega) (by omega) rfl ?_
  refine jw_call (a := 1) (As := [.int (xs (i + 1))]) (rest := []) dL_law_1325 okX4_change inX4_change seX4_change mlL_159 (ci := 4) (T := TX4) (N := 8) rfl (ck hC.g) cC (by decide) rfl rfl (Nat.le_of_ble_eq_true rfl) (.inl rfl) ?_
  refine jw_aload2 dL_law_1328 ?_
  refine jw_aload0 dL_law_1329 ?_
  refine jw_iload3 dL_law_1330 ?_
  refine jw_iconst dL_law_1331 jv_c_iconst_1 ?_
  refine jw_iaddN dL_law_1332 ?_
  refine jw_sld dL_law_1333 (by omega) (by omega) rfl ?_
  refine jw_call (a := 64) (As := [.int (xs (i + 1))]) (rest := [.int (_)]) dL_law_1334 okX5_change inX5_change seX5_change mlL_162 (ci := 5) (T := TX5) (N := 35) rfl (mk hM2.g) cM (by decide) rfl rfl (Nat.le_of_ble_eq_true rfl) (.inr ⟨ot_ow_law hn64, (ot_ow_i ot_ow_nil), hn153⟩) ?_
  refine jw_icmp_eq dL_law_1337 (tgt := 1961) (by decide) (fun _ => ?_) (fun q => absurd rfl q)
  exact hV
set_option maxRecDepth 20000 in
theorem lw_case35 {nm : String} {Lx : Nat} {xs : Nat → Int32} {i : Nat} (hi : i + 6 ≤ Lx) (hL : Lx ≤ 3072) (hN : ot_Nx nm Lx xs i) : ot_At nm Lx xs i 1342 := fun G I J Y Z E K hC hM => by
  obtain ⟨I2, J2, cC, hC2, hh⟩ := pc_far hC (xs (i + 1)) (xs (i + 2)) (xs (i + 3))
  have hM2 := ot_M_hi hM hh
  obtain ⟨G3, I3, J3, cM, hM3, hl, hgx⟩ := pm_far hM2 (xs (i + 1)) (xs (i + 2)) (xs (i + 3))
  have hC3 := ot_C_lo hC2 hl hgx
  have hn64 : 64 ≤ jv_n G := by have := ot_M_n hM2; omega
  have hn153 : jv_n G3 < 1000000 := by have := hM3.n; unfold ot_NM at this; omega
  obtain ⟨G', I', J', hV, hb⟩ := hN _ _ _ _ _ _ _ hC3 hM3
  refine ⟨G', I', J', ?_, hb⟩
  refine jw_aload1 dL_law_1342 ?_
  refine jw_aload0 dL_law_1343 ?_
  refine jw_iload3 dL_law_1344 ?_
  refine jw_iconst dL_law_1345 jv_c_iconst_1 ?_
  refine jw_iaddN dL_law_1346 ?_
  refine jw_sld dL_law_1347 (by omega) (by omega) rfl ?_
  refine jw_aload0 dL_law_1348 ?_
  refine jw_iload3 dL_law_1349 ?_
  refine jw_iconst dL_law_1350 jv_c_iconst_2 ?_
  refine jw_iaddN dL_law_1351 ?_
  refine jw_sld dL_law_1352 (by omega) (by omega) rfl ?_
  refine jw_aload0 dL_law_1353 ?_
  refine jw_iload3 dL_law_1354 ?_
  refine jw_iconst dL_law_1355 jv_c_iconst_3 ?_
  refine jw_iaddN dL_law_1356 ?_
  refine jw_sld dL_law_1357 (by omega) (by omega) rfl ?_
  refine jw_call (a := 1) (As := [.int (xs (i + 1)), .int (xs (i + 2)), .int (xs (i + 3))]) (rest := []) dL_law_1358 okX4_far inX4_far seX4_far mlL_163 (ci := 4) (T := TX4) (N := 8) rfl (ck hC.g) cC (by decide) rfl rfl (Nat.le_of_ble_eq_true rfl) (.inl rfl) ?_
  refine jw_aload2 dL_law_1361 ?_
  refine jw_aload0 dL_law_1362 ?_
  refine jw_iload3 dL_law_1363 ?_
  refine jw_iconst dL_law_1364 jv_c_iconst_1 ?_
  refine jw_iaddN dL_law_1365 ?_
  refine jw_sld dL_law_1366 (by omega) (by omega) rfl ?_
  refine jw_aload0 dL_law_1367 ?_
  refine jw_iload3 dL_law_1368 ?_
  refine jw_iconst dL_law_1369 jv_c_iconst_2 ?_
  refine jw_iaddN dL_law_1370 ?_
  refine jw_sld dL_law_1371 (by omega) (by omega) rfl ?_
  refine jw_aload0 dL_law_1372 ?_
  refine jw_iload3 dL_law_1373 ?_
  refine jw_iconst dL_law_1374 jv_c_iconst_3 ?_
  refine jw_iaddN dL_law_1375 ?_
  refine jw_sld dL_law_1376 (by omega) (by omega) rfl ?_
  refine jw_call (a := 64) (As := [.int (xs (i + 1)), .int (xs (i + 2)), .int (xs (i + 3))]) (rest := [.int (_)]) dL_law_1377 okX5_far inX5_far seX5_far mlL_166 (ci := 5) (T := TX5) (N := 35) rfl (mk hM2.g) cM (by decide) rfl rfl (Nat.le_of_ble_eq_true rfl) (.inr ⟨ot_ow_law hn64, (ot_ow_i ot_ow_nil), hn153⟩) ?_
  refine jw_icmp_eq dL_law_1380 (tgt := 1961) (by decide) (fun _ => ?_) (fun q => absurd rfl q)
  exact hV
set_option maxRecDepth 20000 in
theorem lw_case36 {nm : String} {Lx : Nat} {xs : Nat → Int32} {i : Nat} (hi : i + 6 ≤ Lx) (hL : Lx ≤ 3072) (hN : ot_Nx nm Lx xs i) : ot_At nm Lx xs i 1385 := fun G I J Y Z E K hC hM => by
  obtain ⟨x, hx, I2, J2, cC, hC2, hh⟩ := pc_most hC (xs (i + 1))
  have hM2 := ot_M_hi hM hh
  obtain ⟨z, hz, G3, I3, J3, cM, hM3, hl, hgx⟩ := pm_most hM2 (xs (i + 1))
  have hC3 := ot_C_lo hC2 hl hgx
  have exz : ot_ans (ot_rc8 Y (xs (i + 1))) (nI z) = ot_ans (ot_rc8 Y (xs (i + 1))) (nI x) := by
    unfold ot_rc8
    by_cases h1 : 0 ≤ (xs (i + 1)).toInt ∧ (xs (i + 1)).toInt < Y 10 1
    · by_cases h2 : Y 10 0 ≤ 8
      · rw [ot_isMost_eq (hx h1 h2) (hz h1 h2)]
      · rw [if_pos h1, if_neg h2]; rfl
    · rw [if_neg h1]; rfl
  rw [exz] at cM
  have hn64 : 64 ≤ jv_n G := by have := ot_M_n hM2; omega
  have hn153 : jv_n G3 < 1000000 := by have := hM3.n; unfold ot_NM at this; omega
  obtain ⟨G', I', J', hV, hb⟩ := hN _ _ _ _ _ _ _ hC3 hM3
  refine ⟨G', I', J', ?_, hb⟩
  refine jw_aload1 dL_law_1385 ?_
  refine jw_aload0 dL_law_1386 ?_
  refine jw_iload3 dL_law_1387 ?_
  refine jw_iconst dL_law_1388 jv_c_iconst_1 ?_
  refine jw_iaddN dL_law_1389 ?_
  refine jw_sld dL_law_1390 (by omega) (by omega) rfl ?_
  refine jw_call (a := 1) (As := [.int (xs (i + 1))]) (rest := []) dL_law_1391 okX4_most inX4_most seX4_most mlL_167 (ci := 4) (T := TX4) (N := 8) rfl (ck hC.g) cC (by decide) rfl rfl (Nat.le_of_ble_eq_true rfl) (.inl rfl) ?_
  refine jw_aload2 dL_law_1394 ?_
  refine jw_aload0 dL_law_1395 ?_
  refine jw_iload3 dL_law_1396 ?_
  refine jw_iconst dL_law_1397 jv_c_iconst_1 ?_
  refine jw_iaddN dL_law_1398 ?_
  refine jw_sld dL_law_1399 (by omega) (by omega) rfl ?_
  refine jw_call (a := 64) (As := [.int (xs (i + 1))]) (rest := [.int (ot_ans (ot_rc8 Y (xs (i + 1))) (nI x))]) dL_law_1400 okX5_most inX5_most seX5_most mlL_170 (ci := 5) (T := TX5) (N := 35) rfl (mk hM2.g) cM (by decide) rfl rfl (Nat.le_of_ble_eq_true rfl) (.inr ⟨ot_ow_law hn64, (ot_ow_i ot_ow_nil), hn153⟩) ?_
  refine jw_icmp_eq dL_law_1403 (tgt := 1961) (by decide) (fun _ => ?_) (fun q => absurd rfl q)
  exact hV
set_option maxRecDepth 20000 in
theorem lw_case37 {nm : String} {Lx : Nat} {xs : Nat → Int32} {i : Nat} (hi : i + 6 ≤ Lx) (hL : Lx ≤ 3072) (hN : ot_Nx nm Lx xs i) : ot_At nm Lx xs i 1408 := fun G I J Y Z E K hC hM => by
  obtain ⟨I2, J2, cC, hC2, hh⟩ := pc_always hC (xs (i + 1))
  have hM2 := ot_M_hi hM hh
  obtain ⟨G3, I3, J3, cM, hM3, hl, hgx⟩ := pm_always hM2 (xs (i + 1))
  have hC3 := ot_C_lo hC2 hl hgx
  have hn64 : 64 ≤ jv_n G := by have := ot_M_n hM2; omega
  have hn153 : jv_n G3 < 1000000 := by have := hM3.n; unfold ot_NM at this; omega
  obtain ⟨G', I', J', hV, hb⟩ := hN _ _ _ _ _ _ _ hC3 hM3
  refine ⟨G', I', J', ?_, hb⟩
  refine jw_aload1 dL_law_1408 ?_
  refine jw_aload0 dL_law_1409 ?_
  refine jw_iload3 dL_law_1410 ?_
  refine jw_iconst dL_law_1411 jv_c_iconst_1 ?_
  refine jw_iaddN dL_law_1412 ?_
  refine jw_sld dL_law_1413 (by omega) (by omega) rfl ?_
  refine jw_call (a := 1) (As := [.int (xs (i + 1))]) (rest := []) dL_law_1414 okX4_always inX4_always seX4_always mlL_171 (ci := 4) (T := TX4) (N := 8) rfl (ck hC.g) cC (by decide) rfl rfl (Nat.le_of_ble_eq_true rfl) (.inl rfl) ?_
  refine jw_aload2 dL_law_1417 ?_
  refine jw_aload0 dL_law_1418 ?_
  refine jw_iload3 dL_law_1419 ?_
  refine jw_iconst dL_law_1420 jv_c_iconst_1 ?_
  refine jw_iaddN dL_law_1421 ?_
  refine jw_sld dL_law_1422 (by omega) (by omega) rfl ?_
  refine jw_call (a := 64) (As := [.int (xs (i + 1))]) (rest := [.int (_)]) dL_law_1423 okX5_always inX5_always seX5_always mlL_174 (ci := 5) (T := TX5) (N := 35) rfl (mk hM2.g) cM (by decide) rfl rfl (Nat.le_of_ble_eq_true rfl) (.inr ⟨ot_ow_law hn64, (ot_ow_i ot_ow_nil), hn153⟩) ?_
  refine jw_icmp_eq dL_law_1426 (tgt := 1961) (by decide) (fun _ => ?_) (fun q => absurd rfl q)
  exact hV
set_option maxRecDepth 20000 in
theorem lw_case38 {nm : String} {Lx : Nat} {xs : Nat → Int32} {i : Nat} (hi : i + 6 ≤ Lx) (hL : Lx ≤ 3072) (hN : ot_Nx nm Lx xs i) : ot_At nm Lx xs i 1431 := fun G I J Y Z E K hC hM => by
  obtain ⟨I2, J2, cC, hC2, hh⟩ := pc_often hC (xs (i + 1)) (xs (i + 2))
  have hM2 := ot_M_hi hM hh
  obtain ⟨G3, I3, J3, cM, hM3, hl, hgx⟩ := pm_often hM2 (xs (i + 1)) (xs (i + 2))
  have hC3 := ot_C_lo hC2 hl hgx
  have hn64 : 64 ≤ jv_n G := by have := ot_M_n hM2; omega
  have hn153 : jv_n G3 < 1000000 := by have := hM3.n; unfold ot_NM at this; omega
  obtain ⟨G', I', J', hV, hb⟩ := hN _ _ _ _ _ _ _ hC3 hM3
  refine ⟨G', I', J', ?_, hb⟩
  refine jw_aload1 dL_law_1431 ?_
  refine jw_aload0 dL_law_1432 ?_
  refine jw_iload3 dL_law_1433 ?_
  refine jw_iconst dL_law_1434 jv_c_iconst_1 ?_
  refine jw_iaddN dL_law_1435 ?_
  refine jw_sld dL_law_1436 (by omega) (by omega) rfl ?_
  refine jw_aload0 dL_law_1437 ?_
  refine jw_iload3 dL_law_1438 ?_
  refine jw_iconst dL_law_1439 jv_c_iconst_2 ?_
  refine jw_iaddN dL_law_1440 ?_
  refine jw_sld dL_law_1441 (by omega) (by omega) rfl ?_
  refine jw_call (a := 1) (As := [.int (xs (i + 1)), .int (xs (i + 2))]) (rest := []) dL_law_1442 okX4_often inX4_often seX4_often mlL_175 (ci := 4) (T := TX4) (N := 8) rfl (ck hC.g) cC (by decide) rfl rfl (Nat.le_of_ble_eq_true rfl) (.inl rfl) ?_
  refine jw_aload2 dL_law_1445 ?_
  refine jw_aload0 dL_law_1446 ?_
  refine jw_iload3 dL_law_1447 ?_
  refine jw_iconst dL_law_1448 jv_c_iconst_1 ?_
  refine jw_iaddN dL_law_1449 ?_
  refine jw_sld dL_law_1450 (by omega) (by omega) rfl ?_
  refine jw_aload0 dL_law_1451 ?_
  refine jw_iload3 dL_law_1452 ?_
  refine jw_iconst dL_law_1453 jv_c_iconst_2 ?_
  refine jw_iaddN dL_law_1454 ?_
  refine jw_sld dL_law_1455 (by omega) (by omega) rfl ?_
  refine jw_call (a := 64) (As := [.int (xs (i + 1)), .int (xs (i + 2))]) (rest := [.int (_)]) dL_law_1456 okX5_often inX5_often seX5_often mlL_178 (ci := 5) (T := TX5) (N := 35) rfl (mk hM2.g) cM (by decide) rfl rfl (Nat.le_of_ble_eq_true rfl) (.inr ⟨ot_ow_law hn64, (ot_ow_i ot_ow_nil), hn153⟩) ?_
  refine jw_icmp_eq dL_law_1459 (tgt := 1961) (by decide) (fun _ => ?_) (fun q => absurd rfl q)
  exact hV
set_option maxRecDepth 20000 in
theorem lw_case39 {nm : String} {Lx : Nat} {xs : Nat → Int32} {i : Nat} (hi : i + 6 ≤ Lx) (hL : Lx ≤ 3072) (hN : ot_Nx nm Lx xs i) : ot_At nm Lx xs i 1464 := fun G I J Y Z E K hC hM => by
  obtain ⟨I2, J2, cC, hC2, hh⟩ := pc_safe hC (xs (i + 1)) (xs (i + 2))
  have hM2 := ot_M_hi hM hh
  obtain ⟨G3, I3, J3, cM, hM3, hl, hgx⟩ := pm_safe hM2 (xs (i + 1)) (xs (i + 2))
  have hC3 := ot_C_lo hC2 hl hgx
  have hn64 : 64 ≤ jv_n G := by have := ot_M_n hM2; omega
  have hn153 : jv_n G3 < 1000000 := by have := hM3.n; unfold ot_NM at this; omega
  obtain ⟨G', I', J', hV, hb⟩ := hN _ _ _ _ _ _ _ hC3 hM3
  refine ⟨G', I', J', ?_, hb⟩
  refine jw_aload1 dL_law_1464 ?_
  refine jw_aload0 dL_law_1465 ?_
  refine jw_iload3 dL_law_1466 ?_
  refine jw_iconst dL_law_1467 jv_c_iconst_1 ?_
  refine jw_iaddN dL_law_1468 ?_
  refine jw_sld dL_law_1469 (by omega) (by omega) rfl ?_
  refine jw_aload0 dL_law_1470 ?_
  refine jw_iload3 dL_law_1471 ?_
  refine jw_iconst dL_law_1472 jv_c_iconst_2 ?_
  refine jw_iaddN dL_law_1473 ?_
  refine jw_sld dL_law_1474 (by omega) (by omega) rfl ?_
  refine jw_call (a := 1) (As := [.int (xs (i + 1)), .int (xs (i + 2))]) (rest := []) dL_law_1475 okX4_safe inX4_safe seX4_safe mlL_179 (ci := 4) (T := TX4) (N := 8) rfl (ck hC.g) cC (by decide) rfl rfl (Nat.le_of_ble_eq_true rfl) (.inl rfl) ?_
  refine jw_aload2 dL_law_1478 ?_
  refine jw_aload0 dL_law_1479 ?_
  refine jw_iload3 dL_law_1480 ?_
  refine jw_iconst dL_law_1481 jv_c_iconst_1 ?_
  refine jw_iaddN dL_law_1482 ?_
  refine jw_sld dL_law_1483 (by omega) (by omega) rfl ?_
  refine jw_aload0 dL_law_1484 ?_
  refine jw_iload3 dL_law_1485 ?_
  refine jw_iconst dL_law_1486 jv_c_iconst_2 ?_
  refine jw_iaddN dL_law_1487 ?_
  refine jw_sld dL_law_1488 (by omega) (by omega) rfl ?_
  refine jw_call (a := 64) (As := [.int (xs (i + 1)), .int (xs (i + 2))]) (rest := [.int (_)]) dL_law_1489 okX5_safe inX5_safe seX5_safe mlL_182 (ci := 5) (T := TX5) (N := 35) rfl (mk hM2.g) cM (by decide) rfl rfl (Nat.le_of_ble_eq_true rfl) (.inr ⟨ot_ow_law hn64, (ot_ow_i ot_ow_nil), hn153⟩) ?_
  refine jw_icmp_eq dL_law_1492 (tgt := 1961) (by decide) (fun _ => ?_) (fun q => absurd rfl q)
  exact hV
set_option maxRecDepth 20000 in
theorem lw_case40 {nm : String} {Lx : Nat} {xs : Nat → Int32} {i : Nat} (hi : i + 6 ≤ Lx) (hL : Lx ≤ 3072) (hN : ot_Nx nm Lx xs i) : ot_At nm Lx xs i 1497 := fun G I J Y Z E K hC hM => by
  obtain ⟨I2, J2, cC, hC2, hh⟩ := pc_out hC (xs (i + 1)) (xs (i + 2))
  have hM2 := ot_M_hi hM hh
  obtain ⟨G3, I3, J3, cM, hM3, hl, hgx⟩ := pm_out hM2 (xs (i + 1)) (xs (i + 2))
  have hC3 := ot_C_lo hC2 hl hgx
  have hn64 : 64 ≤ jv_n G := by have := ot_M_n hM2; omega
  have hn153 : jv_n G3 < 1000000 := by have := hM3.n; unfold ot_NM at this; omega
  obtain ⟨G', I', J', hV, hb⟩ := hN _ _ _ _ _ _ _ hC3 hM3
  refine ⟨G', I', J', ?_, hb⟩
  refine jw_aload1 dL_law_1497 ?_
  refine jw_aload0 dL_law_1498 ?_
  refine jw_iload3 dL_law_1499 ?_
  refine jw_iconst dL_law_1500 jv_c_iconst_1 ?_
  refine jw_iaddN dL_law_1501 ?_
  refine jw_sld dL_law_1502 (by omega) (by omega) rfl ?_
  refine jw_aload0 dL_law_1503 ?_
  refine jw_iload3 dL_law_1504 ?_
  refine jw_iconst dL_law_1505 jv_c_iconst_2 ?_
  refine jw_iaddN dL_law_1506 ?_
  refine jw_sld dL_law_1507 (by omega) (by omega) rfl ?_
  refine jw_call (a := 1) (As := [.int (xs (i + 1)), .int (xs (i + 2))]) (rest := []) dL_law_1508 okX4_out inX4_out seX4_out mlL_183 (ci := 4) (T := TX4) (N := 8) rfl (ck hC.g) cC (by decide) rfl rfl (Nat.le_of_ble_eq_true rfl) (.inl rfl) ?_
  refine jw_aload2 dL_law_1511 ?_
  refine jw_aload0 dL_law_1512 ?_
  refine jw_iload3 dL_law_1513 ?_
  refine jw_iconst dL_law_1514 jv_c_iconst_1 ?_
  refine jw_iaddN dL_law_1515 ?_
  refine jw_sld dL_law_1516 (by omega) (by omega) rfl ?_
  refine jw_aload0 dL_law_1517 ?_
  refine jw_iload3 dL_law_1518 ?_
  refine jw_iconst dL_law_1519 jv_c_iconst_2 ?_
  refine jw_iaddN dL_law_1520 ?_
  refine jw_sld dL_law_1521 (by omega) (by omega) rfl ?_
  refine jw_call (a := 64) (As := [.int (xs (i + 1)), .int (xs (i + 2))]) (rest := [.int (_)]) dL_law_1522 okX5_out inX5_out seX5_out mlL_186 (ci := 5) (T := TX5) (N := 35) rfl (mk hM2.g) cM (by decide) rfl rfl (Nat.le_of_ble_eq_true rfl) (.inr ⟨ot_ow_law hn64, (ot_ow_i ot_ow_nil), hn153⟩) ?_
  refine jw_icmp_eq dL_law_1525 (tgt := 1961) (by decide) (fun _ => ?_) (fun q => absurd rfl q)
  exact hV
set_option maxRecDepth 20000 in
theorem lw_case41 {nm : String} {Lx : Nat} {xs : Nat → Int32} {i : Nat} (hi : i + 6 ≤ Lx) (hL : Lx ≤ 3072) (hN : ot_Nx nm Lx xs i) : ot_At nm Lx xs i 1530 := fun G I J Y Z E K hC hM => by
  obtain ⟨I2, J2, cC, hC2, hh⟩ := pc_outAt hC (xs (i + 1)) (xs (i + 2))
  have hM2 := ot_M_hi hM hh
  obtain ⟨G3, I3, J3, cM, hM3, hl, hgx⟩ := pm_outAt hM2 (xs (i + 1)) (xs (i + 2))
  have hC3 := ot_C_lo hC2 hl hgx
  have hn64 : 64 ≤ jv_n G := by have := ot_M_n hM2; omega
  have hn153 : jv_n G3 < 1000000 := by have := hM3.n; unfold ot_NM at this; omega
  obtain ⟨G', I', J', hV, hb⟩ := hN _ _ _ _ _ _ _ hC3 hM3
  refine ⟨G', I', J', ?_, hb⟩
  refine jw_aload1 dL_law_1530 ?_
  refine jw_aload0 dL_law_1531 ?_
  refine jw_iload3 dL_law_1532 ?_
  refine jw_iconst dL_law_1533 jv_c_iconst_1 ?_
  refine jw_iaddN dL_law_1534 ?_
  refine jw_sld dL_law_1535 (by omega) (by omega) rfl ?_
  refine jw_aload0 dL_law_1536 ?_
  refine jw_iload3 dL_law_1537 ?_
  refine jw_iconst dL_law_1538 jv_c_iconst_2 ?_
  refine jw_iaddN dL_law_1539 ?_
  refine jw_sld dL_law_1540 (by omega) (by omega) rfl ?_
  refine jw_call (a := 1) (As := [.int (xs (i + 1)), .int (xs (i + 2))]) (rest := []) dL_law_1541 okX4_outAt inX4_outAt seX4_outAt mlL_187 (ci := 4) (T := TX4) (N := 8) rfl (ck hC.g) cC (by decide) rfl rfl (Nat.le_of_ble_eq_true rfl) (.inl rfl) ?_
  refine jw_aload2 dL_law_1544 ?_
  refine jw_aload0 dL_law_1545 ?_
  refine jw_iload3 dL_law_1546 ?_
  refine jw_iconst dL_law_1547 jv_c_iconst_1 ?_
  refine jw_iaddN dL_law_1548 ?_
  refine jw_sld dL_law_1549 (by omega) (by omega) rfl ?_
  refine jw_aload0 dL_law_1550 ?_
  refine jw_iload3 dL_law_1551 ?_
  refine jw_iconst dL_law_1552 jv_c_iconst_2 ?_
  refine jw_iaddN dL_law_1553 ?_
  refine jw_sld dL_law_1554 (by omega) (by omega) rfl ?_
  refine jw_call (a := 64) (As := [.int (xs (i + 1)), .int (xs (i + 2))]) (rest := [.int (_)]) dL_law_1555 okX5_outAt inX5_outAt seX5_outAt mlL_190 (ci := 5) (T := TX5) (N := 35) rfl (mk hM2.g) cM (by decide) rfl rfl (Nat.le_of_ble_eq_true rfl) (.inr ⟨ot_ow_law hn64, (ot_ow_i ot_ow_nil), hn153⟩) ?_
  refine jw_icmp_eq dL_law_1558 (tgt := 1961) (by decide) (fun _ => ?_) (fun q => absurd rfl q)
  exact hV
set_option maxRecDepth 20000 in
theorem lw_case42 {nm : String} {Lx : Nat} {xs : Nat → Int32} {i : Nat} (hi : i + 6 ≤ Lx) (hL : Lx ≤ 3072) (hN : ot_Nx nm Lx xs i) : ot_At nm Lx xs i 1563 := fun G I J Y Z E K hC hM => by
  obtain ⟨I2, J2, cC, hC2, hh⟩ := pc_stays hC (xs (i + 1))
  have hM2 := ot_M_hi hM hh
  obtain ⟨G3, I3, J3, cM, hM3, hl, hgx⟩ := pm_stays hM2 (xs (i + 1))
  have hC3 := ot_C_lo hC2 hl hgx
  have hn64 : 64 ≤ jv_n G := by have := ot_M_n hM2; omega
  have hn153 : jv_n G3 < 1000000 := by have := hM3.n; unfold ot_NM at this; omega
  obtain ⟨G', I', J', hV, hb⟩ := hN _ _ _ _ _ _ _ hC3 hM3
  refine ⟨G', I', J', ?_, hb⟩
  refine jw_aload1 dL_law_1563 ?_
  refine jw_aload0 dL_law_1564 ?_
  refine jw_iload3 dL_law_1565 ?_
  refine jw_iconst dL_law_1566 jv_c_iconst_1 ?_
  refine jw_iaddN dL_law_1567 ?_
  refine jw_sld dL_law_1568 (by omega) (by omega) rfl ?_
  refine jw_call (a := 1) (As := [.int (xs (i + 1))]) (rest := []) dL_law_1569 okX4_stays inX4_stays seX4_stays mlL_191 (ci := 4) (T := TX4) (N := 8) rfl (ck hC.g) cC (by decide) rfl rfl (Nat.le_of_ble_eq_true rfl) (.inl rfl) ?_
  refine jw_aload2 dL_law_1572 ?_
  refine jw_aload0 dL_law_1573 ?_
  refine jw_iload3 dL_law_1574 ?_
  refine jw_iconst dL_law_1575 jv_c_iconst_1 ?_
  refine jw_iaddN dL_law_1576 ?_
  refine jw_sld dL_law_1577 (by omega) (by omega) rfl ?_
  refine jw_call (a := 64) (As := [.int (xs (i + 1))]) (rest := [.int (_)]) dL_law_1578 okX5_stays inX5_stays seX5_stays mlL_194 (ci := 5) (T := TX5) (N := 35) rfl (mk hM2.g) cM (by decide) rfl rfl (Nat.le_of_ble_eq_true rfl) (.inr ⟨ot_ow_law hn64, (ot_ow_i ot_ow_nil), hn153⟩) ?_
  refine jw_icmp_eq dL_law_1581 (tgt := 1961) (by decide) (fun _ => ?_) (fun q => absurd rfl q)
  exact hV
set_option maxRecDepth 20000 in
theorem lw_case43 {nm : String} {Lx : Nat} {xs : Nat → Int32} {i : Nat} (hi : i + 6 ≤ Lx) (hL : Lx ≤ 3072) (hN : ot_Nx nm Lx xs i) : ot_At nm Lx xs i 1586 := fun G I J Y Z E K hC hM => by
  obtain ⟨I2, J2, cC, hC2, hh⟩ := pc_fits hC (xs (i + 1))
  have hM2 := ot_M_hi hM hh
  obtain ⟨G3, I3, J3, cM, hM3, hl, hgx⟩ := pm_fits hM2 (xs (i + 1))
  have hC3 := ot_C_lo hC2 hl hgx
  have hn64 : 64 ≤ jv_n G := by have := ot_M_n hM2; omega
  have hn153 : jv_n G3 < 1000000 := by have := hM3.n; unfold ot_NM at this; omega
  obtain ⟨G', I', J', hV, hb⟩ := hN _ _ _ _ _ _ _ hC3 hM3
  refine ⟨G', I', J', ?_, hb⟩
  refine jw_aload1 dL_law_1586 ?_
  refine jw_aload0 dL_law_1587 ?_
  refine jw_iload3 dL_law_1588 ?_
  refine jw_iconst dL_law_1589 jv_c_iconst_1 ?_
  refine jw_iaddN dL_law_1590 ?_
  refine jw_sld dL_law_1591 (by omega) (by omega) rfl ?_
  refine jw_call (a := 1) (As := [.int (xs (i + 1))]) (rest := []) dL_law_1592 okX4_fits inX4_fits seX4_fits mlL_195 (ci := 4) (T := TX4) (N := 8) rfl (ck hC.g) cC (by decide) rfl rfl (Nat.le_of_ble_eq_true rfl) (.inl rfl) ?_
  refine jw_aload2 dL_law_1595 ?_
  refine jw_aload0 dL_law_1596 ?_
  refine jw_iload3 dL_law_1597 ?_
  refine jw_iconst dL_law_1598 jv_c_iconst_1 ?_
  refine jw_iaddN dL_law_1599 ?_
  refine jw_sld dL_law_1600 (by omega) (by omega) rfl ?_
  refine jw_call (a := 64) (As := [.int (xs (i + 1))]) (rest := [.int (_)]) dL_law_1601 okX5_fits inX5_fits seX5_fits mlL_198 (ci := 5) (T := TX5) (N := 35) rfl (mk hM2.g) cM (by decide) rfl rfl (Nat.le_of_ble_eq_true rfl) (.inr ⟨ot_ow_law hn64, (ot_ow_i ot_ow_nil), hn153⟩) ?_
  refine jw_icmp_eq dL_law_1604 (tgt := 1961) (by decide) (fun _ => ?_) (fun q => absurd rfl q)
  exact hV
set_option maxRecDepth 20000 in
theorem lw_case44 {nm : String} {Lx : Nat} {xs : Nat → Int32} {i : Nat} (hi : i + 6 ≤ Lx) (hL : Lx ≤ 3072) (hN : ot_Nx nm Lx xs i) : ot_At nm Lx xs i 1609 := fun G I J Y Z E K hC hM => by
  obtain ⟨I2, J2, cC, hC2, hh⟩ := pc_moved hC (xs (i + 1)) (xs (i + 2))
  have hM2 := ot_M_hi hM hh
  obtain ⟨G3, I3, J3, cM, hM3, hl, hgx⟩ := pm_moved hM2 (xs (i + 1)) (xs (i + 2))
  have hC3 := ot_C_lo hC2 hl hgx
  have hn64 : 64 ≤ jv_n G := by have := ot_M_n hM2; omega
  have hn153 : jv_n G3 < 1000000 := by have := hM3.n; unfold ot_NM at this; omega
  obtain ⟨G', I', J', hV, hb⟩ := hN _ _ _ _ _ _ _ hC3 hM3
  refine ⟨G', I', J', ?_, hb⟩
  refine jw_aload1 dL_law_1609 ?_
  refine jw_aload0 dL_law_1610 ?_
  refine jw_iload3 dL_law_1611 ?_
  refine jw_iconst dL_law_1612 jv_c_iconst_1 ?_
  refine jw_iaddN dL_law_1613 ?_
  refine jw_sld dL_law_1614 (by omega) (by omega) rfl ?_
  refine jw_aload0 dL_law_1615 ?_
  refine jw_iload3 dL_law_1616 ?_
  refine jw_iconst dL_law_1617 jv_c_iconst_2 ?_
  refine jw_iaddN dL_law_1618 ?_
  refine jw_sld dL_law_1619 (by omega) (by omega) rfl ?_
  refine jw_call (a := 1) (As := [.int (xs (i + 1)), .int (xs (i + 2))]) (rest := []) dL_law_1620 okX4_moved inX4_moved seX4_moved mlL_199 (ci := 4) (T := TX4) (N := 8) rfl (ck hC.g) cC (by decide) rfl rfl (Nat.le_of_ble_eq_true rfl) (.inl rfl) ?_
  refine jw_aload2 dL_law_1623 ?_
  refine jw_aload0 dL_law_1624 ?_
  refine jw_iload3 dL_law_1625 ?_
  refine jw_iconst dL_law_1626 jv_c_iconst_1 ?_
  refine jw_iaddN dL_law_1627 ?_
  refine jw_sld dL_law_1628 (by omega) (by omega) rfl ?_
  refine jw_aload0 dL_law_1629 ?_
  refine jw_iload3 dL_law_1630 ?_
  refine jw_iconst dL_law_1631 jv_c_iconst_2 ?_
  refine jw_iaddN dL_law_1632 ?_
  refine jw_sld dL_law_1633 (by omega) (by omega) rfl ?_
  refine jw_call (a := 64) (As := [.int (xs (i + 1)), .int (xs (i + 2))]) (rest := [.int (_)]) dL_law_1634 okX5_moved inX5_moved seX5_moved mlL_202 (ci := 5) (T := TX5) (N := 35) rfl (mk hM2.g) cM (by decide) rfl rfl (Nat.le_of_ble_eq_true rfl) (.inr ⟨ot_ow_law hn64, (ot_ow_i ot_ow_nil), hn153⟩) ?_
  refine jw_icmp_eq dL_law_1637 (tgt := 1961) (by decide) (fun _ => ?_) (fun q => absurd rfl q)
  exact hV
set_option maxRecDepth 20000 in
theorem lw_case45 {nm : String} {Lx : Nat} {xs : Nat → Int32} {i : Nat} (hi : i + 6 ≤ Lx) (hL : Lx ≤ 3072) (hN : ot_Nx nm Lx xs i) : ot_At nm Lx xs i 1642 := fun G I J Y Z E K hC hM => by
  obtain ⟨I2, J2, cC, hC2, hh⟩ := pc_miscounted hC (xs (i + 1))
  have hM2 := ot_M_hi hM hh
  obtain ⟨G3, I3, J3, cM, hM3, hl, hgx⟩ := pm_miscounted hM2 (xs (i + 1))
  have hC3 := ot_C_lo hC2 hl hgx
  have hn64 : 64 ≤ jv_n G := by have := ot_M_n hM2; omega
  have hn153 : jv_n G3 < 1000000 := by have := hM3.n; unfold ot_NM at this; omega
  obtain ⟨G', I', J', hV, hb⟩ := hN _ _ _ _ _ _ _ hC3 hM3
  refine ⟨G', I', J', ?_, hb⟩
  refine jw_aload1 dL_law_1642 ?_
  refine jw_aload0 dL_law_1643 ?_
  refine jw_iload3 dL_law_1644 ?_
  refine jw_iconst dL_law_1645 jv_c_iconst_1 ?_
  refine jw_iaddN dL_law_1646 ?_
  refine jw_sld dL_law_1647 (by omega) (by omega) rfl ?_
  refine jw_call (a := 1) (As := [.int (xs (i + 1))]) (rest := []) dL_law_1648 okX4_miscounted inX4_miscounted seX4_miscounted mlL_203 (ci := 4) (T := TX4) (N := 8) rfl (ck hC.g) cC (by decide) rfl rfl (Nat.le_of_ble_eq_true rfl) (.inl rfl) ?_
  refine jw_aload2 dL_law_1651 ?_
  refine jw_aload0 dL_law_1652 ?_
  refine jw_iload3 dL_law_1653 ?_
  refine jw_iconst dL_law_1654 jv_c_iconst_1 ?_
  refine jw_iaddN dL_law_1655 ?_
  refine jw_sld dL_law_1656 (by omega) (by omega) rfl ?_
  refine jw_call (a := 64) (As := [.int (xs (i + 1))]) (rest := [.int (_)]) dL_law_1657 okX5_miscounted inX5_miscounted seX5_miscounted mlL_206 (ci := 5) (T := TX5) (N := 35) rfl (mk hM2.g) cM (by decide) rfl rfl (Nat.le_of_ble_eq_true rfl) (.inr ⟨ot_ow_law hn64, (ot_ow_i ot_ow_nil), hn153⟩) ?_
  refine jw_icmp_eq dL_law_1660 (tgt := 1961) (by decide) (fun _ => ?_) (fun q => absurd rfl q)
  exact hV
set_option maxRecDepth 20000 in
theorem lw_case46 {nm : String} {Lx : Nat} {xs : Nat → Int32} {i : Nat} (hi : i + 6 ≤ Lx) (hL : Lx ≤ 3072) (hN : ot_Nx nm Lx xs i) : ot_At nm Lx xs i 1665 := fun G I J Y Z E K hC hM => by
  obtain ⟨I2, J2, cC, hC2, hh⟩ := pc_judge hC (xs (i + 1)) (xs (i + 2))
  have hM2 := ot_M_hi hM hh
  obtain ⟨G3, I3, J3, cM, hM3, hl, hgx⟩ := pm_judge hM2 (xs (i + 1)) (xs (i + 2))
  have hC3 := ot_C_lo hC2 hl hgx
  have hn64 : 64 ≤ jv_n G := by have := ot_M_n hM2; omega
  have hn153 : jv_n G3 < 1000000 := by have := hM3.n; unfold ot_NM at this; omega
  obtain ⟨G', I', J', hV, hb⟩ := hN _ _ _ _ _ _ _ hC3 hM3
  refine ⟨G', I', J', ?_, hb⟩
  refine jw_aload1 dL_law_1665 ?_
  refine jw_aload0 dL_law_1666 ?_
  refine jw_iload3 dL_law_1667 ?_
  refine jw_iconst dL_law_1668 jv_c_iconst_1 ?_
  refine jw_iaddN dL_law_1669 ?_
  refine jw_sld dL_law_1670 (by omega) (by omega) rfl ?_
  refine jw_aload0 dL_law_1671 ?_
  refine jw_iload3 dL_law_1672 ?_
  refine jw_iconst dL_law_1673 jv_c_iconst_2 ?_
  refine jw_iaddN dL_law_1674 ?_
  refine jw_sld dL_law_1675 (by omega) (by omega) rfl ?_
  refine jw_call (a := 1) (As := [.int (xs (i + 1)), .int (xs (i + 2))]) (rest := []) dL_law_1676 okX4_judge inX4_judge seX4_judge mlL_207 (ci := 4) (T := TX4) (N := 8) rfl (ck hC.g) cC (by decide) rfl rfl (Nat.le_of_ble_eq_true rfl) (.inl rfl) ?_
  refine jw_aload2 dL_law_1679 ?_
  refine jw_aload0 dL_law_1680 ?_
  refine jw_iload3 dL_law_1681 ?_
  refine jw_iconst dL_law_1682 jv_c_iconst_1 ?_
  refine jw_iaddN dL_law_1683 ?_
  refine jw_sld dL_law_1684 (by omega) (by omega) rfl ?_
  refine jw_aload0 dL_law_1685 ?_
  refine jw_iload3 dL_law_1686 ?_
  refine jw_iconst dL_law_1687 jv_c_iconst_2 ?_
  refine jw_iaddN dL_law_1688 ?_
  refine jw_sld dL_law_1689 (by omega) (by omega) rfl ?_
  refine jw_call (a := 64) (As := [.int (xs (i + 1)), .int (xs (i + 2))]) (rest := [.int (_)]) dL_law_1690 okX5_judge inX5_judge seX5_judge mlL_210 (ci := 5) (T := TX5) (N := 35) rfl (mk hM2.g) cM (by decide) rfl rfl (Nat.le_of_ble_eq_true rfl) (.inr ⟨ot_ow_law hn64, (ot_ow_i ot_ow_nil), hn153⟩) ?_
  refine jw_icmp_eq dL_law_1693 (tgt := 1961) (by decide) (fun _ => ?_) (fun q => absurd rfl q)
  exact hV
set_option maxRecDepth 20000 in
theorem lw_case47 {nm : String} {Lx : Nat} {xs : Nat → Int32} {i : Nat} (hi : i + 6 ≤ Lx) (hL : Lx ≤ 3072) (hN : ot_Nx nm Lx xs i) : ot_At nm Lx xs i 1698 := fun G I J Y Z E K hC hM => by
  obtain ⟨I2, J2, cC, hC2, hh⟩ := pc_behind hC (xs (i + 1)) (xs (i + 2)) (xs (i + 3))
  have hM2 := ot_M_hi hM hh
  obtain ⟨G3, I3, J3, cM, hM3, hl, hgx⟩ := pm_behind hM2 (xs (i + 1)) (xs (i + 2)) (xs (i + 3))
  have hC3 := ot_C_lo hC2 hl hgx
  have hn64 : 64 ≤ jv_n G := by have := ot_M_n hM2; omega
  have hn153 : jv_n G3 < 1000000 := by have := hM3.n; unfold ot_NM at this; omega
  obtain ⟨G', I', J', hV, hb⟩ := hN _ _ _ _ _ _ _ hC3 hM3
  refine ⟨G', I', J', ?_, hb⟩
  refine jw_aload1 dL_law_1698 ?_
  refine jw_aload0 dL_law_1699 ?_
  refine jw_iload3 dL_law_1700 ?_
  refine jw_iconst dL_law_1701 jv_c_iconst_1 ?_
  refine jw_iaddN dL_law_1702 ?_
  refine jw_sld dL_law_1703 (by omega) (by omega) rfl ?_
  refine jw_aload0 dL_law_1704 ?_
  refine jw_iload3 dL_law_1705 ?_
  refine jw_iconst dL_law_1706 jv_c_iconst_2 ?_
  refine jw_iaddN dL_law_1707 ?_
  refine jw_sld dL_law_1708 (by omega) (by omega) rfl ?_
  refine jw_aload0 dL_law_1709 ?_
  refine jw_iload3 dL_law_1710 ?_
  refine jw_iconst dL_law_1711 jv_c_iconst_3 ?_
  refine jw_iaddN dL_law_1712 ?_
  refine jw_sld dL_law_1713 (by omega) (by omega) rfl ?_
  refine jw_call (a := 1) (As := [.int (xs (i + 1)), .int (xs (i + 2)), .int (xs (i + 3))]) (rest := []) dL_law_1714 okX4_behind inX4_behind seX4_behind mlL_211 (ci := 4) (T := TX4) (N := 8) rfl (ck hC.g) cC (by decide) rfl rfl (Nat.le_of_ble_eq_true rfl) (.inl rfl) ?_
  refine jw_aload2 dL_law_1717 ?_
  refine jw_aload0 dL_law_1718 ?_
  refine jw_iload3 dL_law_1719 ?_
  refine jw_iconst dL_law_1720 jv_c_iconst_1 ?_
  refine jw_iaddN dL_law_1721 ?_
  refine jw_sld dL_law_1722 (by omega) (by omega) rfl ?_
  refine jw_aload0 dL_law_1723 ?_
  refine jw_iload3 dL_law_1724 ?_
  refine jw_iconst dL_law_1725 jv_c_iconst_2 ?_
  refine jw_iaddN dL_law_1726 ?_
  refine jw_sld dL_law_1727 (by omega) (by omega) rfl ?_
  refine jw_aload0 dL_law_1728 ?_
  refine jw_iload3 dL_law_1729 ?_
  refine jw_iconst dL_law_1730 jv_c_iconst_3 ?_
  refine jw_iaddN dL_law_1731 ?_
  refine jw_sld dL_law_1732 (by omega) (by omega) rfl ?_
  refine jw_call (a := 64) (As := [.int (xs (i + 1)), .int (xs (i + 2)), .int (xs (i + 3))]) (rest := [.int (_)]) dL_law_1733 okX5_behind inX5_behind seX5_behind mlL_214 (ci := 5) (T := TX5) (N := 35) rfl (mk hM2.g) cM (by decide) rfl rfl (Nat.le_of_ble_eq_true rfl) (.inr ⟨ot_ow_law hn64, (ot_ow_i ot_ow_nil), hn153⟩) ?_
  refine jw_icmp_eq dL_law_1736 (tgt := 1961) (by decide) (fun _ => ?_) (fun q => absurd rfl q)
  exact hV
set_option maxRecDepth 20000 in
theorem lw_case48 {nm : String} {Lx : Nat} {xs : Nat → Int32} {i : Nat} (hi : i + 6 ≤ Lx) (hL : Lx ≤ 3072) (hN : ot_Nx nm Lx xs i) : ot_At nm Lx xs i 1741 := fun G I J Y Z E K hC hM => by
  obtain ⟨I2, J2, cC, hC2, hh⟩ := pc_done hC (xs (i + 1)) (xs (i + 2))
  have hM2 := ot_M_hi hM hh
  obtain ⟨G3, I3, J3, cM, hM3, hl, hgx⟩ := pm_done hM2 (xs (i + 1)) (xs (i + 2))
  have hC3 := ot_C_lo hC2 hl hgx
  have hn64 : 64 ≤ jv_n G := by have := ot_M_n hM2; omega
  have hn153 : jv_n G3 < 1000000 := by have := hM3.n; unfold ot_NM at this; omega
  obtain ⟨G', I', J', hV, hb⟩ := hN _ _ _ _ _ _ _ hC3 hM3
  refine ⟨G', I', J', ?_, hb⟩
  refine jw_aload1 dL_law_1741 ?_
  refine jw_aload0 dL_law_1742 ?_
  refine jw_iload3 dL_law_1743 ?_
  refine jw_iconst dL_law_1744 jv_c_iconst_1 ?_
  refine jw_iaddN dL_law_1745 ?_
  refine jw_sld dL_law_1746 (by omega) (by omega) rfl ?_
  refine jw_aload0 dL_law_1747 ?_
  refine jw_iload3 dL_law_1748 ?_
  refine jw_iconst dL_law_1749 jv_c_iconst_2 ?_
  refine jw_iaddN dL_law_1750 ?_
  refine jw_sld dL_law_1751 (by omega) (by omega) rfl ?_
  refine jw_call (a := 1) (As := [.int (xs (i + 1)), .int (xs (i + 2))]) (rest := []) dL_law_1752 okX4_done inX4_done seX4_done mlL_215 (ci := 4) (T := TX4) (N := 8) rfl (ck hC.g) cC (by decide) rfl rfl (Nat.le_of_ble_eq_true rfl) (.inl rfl) ?_
  refine jw_aload2 dL_law_1755 ?_
  refine jw_aload0 dL_law_1756 ?_
  refine jw_iload3 dL_law_1757 ?_
  refine jw_iconst dL_law_1758 jv_c_iconst_1 ?_
  refine jw_iaddN dL_law_1759 ?_
  refine jw_sld dL_law_1760 (by omega) (by omega) rfl ?_
  refine jw_aload0 dL_law_1761 ?_
  refine jw_iload3 dL_law_1762 ?_
  refine jw_iconst dL_law_1763 jv_c_iconst_2 ?_
  refine jw_iaddN dL_law_1764 ?_
  refine jw_sld dL_law_1765 (by omega) (by omega) rfl ?_
  refine jw_call (a := 64) (As := [.int (xs (i + 1)), .int (xs (i + 2))]) (rest := [.int (_)]) dL_law_1766 okX5_done inX5_done seX5_done mlL_218 (ci := 5) (T := TX5) (N := 35) rfl (mk hM2.g) cM (by decide) rfl rfl (Nat.le_of_ble_eq_true rfl) (.inr ⟨ot_ow_law hn64, (ot_ow_i ot_ow_nil), hn153⟩) ?_
  refine jw_icmp_eq dL_law_1769 (tgt := 1961) (by decide) (fun _ => ?_) (fun q => absurd rfl q)
  exact hV
set_option maxRecDepth 20000 in
theorem lw_case49 {nm : String} {Lx : Nat} {xs : Nat → Int32} {i : Nat} (hi : i + 6 ≤ Lx) (hL : Lx ≤ 3072) (hN : ot_Nx nm Lx xs i) : ot_At nm Lx xs i 1774 := fun G I J Y Z E K hC hM => by
  obtain ⟨I2, J2, cC, hC2, hh⟩ := pc_swap hC (xs (i + 1)) (xs (i + 2))
  have hM2 := ot_M_hi hM hh
  obtain ⟨G3, I3, J3, cM, hM3, hl, hgx⟩ := pm_swap hM2 (xs (i + 1)) (xs (i + 2))
  have hC3 := ot_C_lo hC2 hl hgx
  have hn64 : 64 ≤ jv_n G := by have := ot_M_n hM2; omega
  have hn153 : jv_n G3 < 1000000 := by have := hM3.n; unfold ot_NM at this; omega
  obtain ⟨G', I', J', hV, hb⟩ := hN _ _ _ _ _ _ _ hC3 hM3
  refine ⟨G', I', J', ?_, hb⟩
  refine jw_aload1 dL_law_1774 ?_
  refine jw_aload0 dL_law_1775 ?_
  refine jw_iload3 dL_law_1776 ?_
  refine jw_iconst dL_law_1777 jv_c_iconst_1 ?_
  refine jw_iaddN dL_law_1778 ?_
  refine jw_sld dL_law_1779 (by omega) (by omega) rfl ?_
  refine jw_aload0 dL_law_1780 ?_
  refine jw_iload3 dL_law_1781 ?_
  refine jw_iconst dL_law_1782 jv_c_iconst_2 ?_
  refine jw_iaddN dL_law_1783 ?_
  refine jw_sld dL_law_1784 (by omega) (by omega) rfl ?_
  refine jw_call (a := 1) (As := [.int (xs (i + 1)), .int (xs (i + 2))]) (rest := []) dL_law_1785 okX4_swap inX4_swap seX4_swap mlL_219 (ci := 4) (T := TX4) (N := 8) rfl (ck hC.g) cC (by decide) rfl rfl (Nat.le_of_ble_eq_true rfl) (.inl rfl) ?_
  refine jw_aload2 dL_law_1788 ?_
  refine jw_aload0 dL_law_1789 ?_
  refine jw_iload3 dL_law_1790 ?_
  refine jw_iconst dL_law_1791 jv_c_iconst_1 ?_
  refine jw_iaddN dL_law_1792 ?_
  refine jw_sld dL_law_1793 (by omega) (by omega) rfl ?_
  refine jw_aload0 dL_law_1794 ?_
  refine jw_iload3 dL_law_1795 ?_
  refine jw_iconst dL_law_1796 jv_c_iconst_2 ?_
  refine jw_iaddN dL_law_1797 ?_
  refine jw_sld dL_law_1798 (by omega) (by omega) rfl ?_
  refine jw_call (a := 64) (As := [.int (xs (i + 1)), .int (xs (i + 2))]) (rest := [.int (_)]) dL_law_1799 okX5_swap inX5_swap seX5_swap mlL_222 (ci := 5) (T := TX5) (N := 35) rfl (mk hM2.g) cM (by decide) rfl rfl (Nat.le_of_ble_eq_true rfl) (.inr ⟨ot_ow_law hn64, (ot_ow_i ot_ow_nil), hn153⟩) ?_
  refine jw_icmp_eq dL_law_1802 (tgt := 1961) (by decide) (fun _ => ?_) (fun q => absurd rfl q)
  exact hV
set_option maxRecDepth 20000 in
theorem lw_case50 {nm : String} {Lx : Nat} {xs : Nat → Int32} {i : Nat} (hi : i + 6 ≤ Lx) (hL : Lx ≤ 3072) (hN : ot_Nx nm Lx xs i) : ot_At nm Lx xs i 1807 := fun G I J Y Z E K hC hM => by
  obtain ⟨I2, J2, cC, hC2, hh⟩ := pc_move hC (xs (i + 1)) (xs (i + 2))
  have hM2 := ot_M_hi hM hh
  obtain ⟨G3, I3, J3, cM, hM3, hl, hgx⟩ := pm_move hM2 (xs (i + 1)) (xs (i + 2))
  have hC3 := ot_C_lo hC2 hl hgx
  have hn64 : 64 ≤ jv_n G := by have := ot_M_n hM2; omega
  have hn153 : jv_n G3 < 1000000 := by have := hM3.n; unfold ot_NM at this; omega
  obtain ⟨G', I', J', hV, hb⟩ := hN _ _ _ _ _ _ _ hC3 hM3
  refine ⟨G', I', J', ?_, hb⟩
  refine jw_aload1 dL_law_1807 ?_
  refine jw_aload0 dL_law_1808 ?_
  refine jw_iload3 dL_law_1809 ?_
  refine jw_iconst dL_law_1810 jv_c_iconst_1 ?_
  refine jw_iaddN dL_law_1811 ?_
  refine jw_sld dL_law_1812 (by omega) (by omega) rfl ?_
  refine jw_aload0 dL_law_1813 ?_
  refine jw_iload3 dL_law_1814 ?_
  refine jw_iconst dL_law_1815 jv_c_iconst_2 ?_
  refine jw_iaddN dL_law_1816 ?_
  refine jw_sld dL_law_1817 (by omega) (by omega) rfl ?_
  refine jw_call (a := 1) (As := [.int (xs (i + 1)), .int (xs (i + 2))]) (rest := []) dL_law_1818 okX4_move inX4_move seX4_move mlL_223 (ci := 4) (T := TX4) (N := 8) rfl (ck hC.g) cC (by decide) rfl rfl (Nat.le_of_ble_eq_true rfl) (.inl rfl) ?_
  refine jw_aload2 dL_law_1821 ?_
  refine jw_aload0 dL_law_1822 ?_
  refine jw_iload3 dL_law_1823 ?_
  refine jw_iconst dL_law_1824 jv_c_iconst_1 ?_
  refine jw_iaddN dL_law_1825 ?_
  refine jw_sld dL_law_1826 (by omega) (by omega) rfl ?_
  refine jw_aload0 dL_law_1827 ?_
  refine jw_iload3 dL_law_1828 ?_
  refine jw_iconst dL_law_1829 jv_c_iconst_2 ?_
  refine jw_iaddN dL_law_1830 ?_
  refine jw_sld dL_law_1831 (by omega) (by omega) rfl ?_
  refine jw_call (a := 64) (As := [.int (xs (i + 1)), .int (xs (i + 2))]) (rest := [.int (_)]) dL_law_1832 okX5_move inX5_move seX5_move mlL_226 (ci := 5) (T := TX5) (N := 35) rfl (mk hM2.g) cM (by decide) rfl rfl (Nat.le_of_ble_eq_true rfl) (.inr ⟨ot_ow_law hn64, (ot_ow_i ot_ow_nil), hn153⟩) ?_
  refine jw_icmp_eq dL_law_1835 (tgt := 1961) (by decide) (fun _ => ?_) (fun q => absurd rfl q)
  exact hV
set_option maxRecDepth 20000 in
theorem lw_case51 {nm : String} {Lx : Nat} {xs : Nat → Int32} {i : Nat} (hi : i + 6 ≤ Lx) (hL : Lx ≤ 3072) (hN : ot_Nx nm Lx xs i) : ot_At nm Lx xs i 1840 := fun G I J Y Z E K hC hM => by
  obtain ⟨I2, J2, cC, hC2, hh⟩ := pc_turn hC 
  have hM2 := ot_M_hi hM hh
  obtain ⟨G3, I3, J3, cM, hM3, hl, hgx⟩ := pm_turn hM2 
  have hC3 := ot_C_lo hC2 hl hgx
  have hn64 : 64 ≤ jv_n G := by have := ot_M_n hM2; omega
  have hn153 : jv_n G3 < 1000000 := by have := hM3.n; unfold ot_NM at this; omega
  obtain ⟨G', I', J', hV, hb⟩ := hN _ _ _ _ _ _ _ hC3 hM3
  refine ⟨G', I', J', ?_, hb⟩
  refine jw_aload1 dL_law_1840 ?_
  refine jw_call (a := 1) (As := []) (rest := []) dL_law_1841 okX4_turn inX4_turn seX4_turn mlL_227 (ci := 4) (T := TX4) (N := 8) rfl (ck hC.g) cC (by decide) rfl rfl (Nat.le_of_ble_eq_true rfl) (.inl rfl) ?_
  refine jw_aload2 dL_law_1844 ?_
  refine jw_call (a := 64) (As := []) (rest := [.int (_)]) dL_law_1845 okX5_turn inX5_turn seX5_turn mlL_230 (ci := 5) (T := TX5) (N := 35) rfl (mk hM2.g) cM (by decide) rfl rfl (Nat.le_of_ble_eq_true rfl) (.inr ⟨ot_ow_law hn64, (ot_ow_i ot_ow_nil), hn153⟩) ?_
  refine jw_icmp_eq dL_law_1848 (tgt := 1961) (by decide) (fun _ => ?_) (fun q => absurd rfl q)
  exact hV
set_option maxRecDepth 20000 in
theorem lw_case52 {nm : String} {Lx : Nat} {xs : Nat → Int32} {i : Nat} (hi : i + 6 ≤ Lx) (hL : Lx ≤ 3072) (hN : ot_Nx nm Lx xs i) : ot_At nm Lx xs i 1853 := fun G I J Y Z E K hC hM => by
  obtain ⟨I2, J2, cC, hC2, hh⟩ := pc_leaves hC 
  have hM2 := ot_M_hi hM hh
  obtain ⟨G3, I3, J3, cM, hM3, hl, hgx⟩ := pm_leaves hM2 
  have hC3 := ot_C_lo hC2 hl hgx
  have hn64 : 64 ≤ jv_n G := by have := ot_M_n hM2; omega
  have hn153 : jv_n G3 < 1000000 := by have := hM3.n; unfold ot_NM at this; omega
  obtain ⟨G', I', J', hV, hb⟩ := hN _ _ _ _ _ _ _ hC3 hM3
  refine ⟨G', I', J', ?_, hb⟩
  refine jw_aload1 dL_law_1853 ?_
  refine jw_call (a := 1) (As := []) (rest := []) dL_law_1854 okX4_leaves inX4_leaves seX4_leaves mlL_231 (ci := 4) (T := TX4) (N := 8) rfl (ck hC.g) cC (by decide) rfl rfl (Nat.le_of_ble_eq_true rfl) (.inl rfl) ?_
  refine jw_aload2 dL_law_1857 ?_
  refine jw_call (a := 64) (As := []) (rest := [.int (_)]) dL_law_1858 okX5_leaves inX5_leaves seX5_leaves mlL_234 (ci := 5) (T := TX5) (N := 35) rfl (mk hM2.g) cM (by decide) rfl rfl (Nat.le_of_ble_eq_true rfl) (.inr ⟨ot_ow_law hn64, (ot_ow_i ot_ow_nil), hn153⟩) ?_
  refine jw_icmp_eq dL_law_1861 (tgt := 1961) (by decide) (fun _ => ?_) (fun q => absurd rfl q)
  exact hV
set_option maxRecDepth 20000 in
theorem lw_case53 {nm : String} {Lx : Nat} {xs : Nat → Int32} {i : Nat} (hi : i + 6 ≤ Lx) (hL : Lx ≤ 3072) (hN : ot_Nx nm Lx xs i) : ot_At nm Lx xs i 1866 := fun G I J Y Z E K hC hM => by
  obtain ⟨I2, J2, cC, hC2, hh⟩ := pc_term hC (xs (i + 1))
  have hM2 := ot_M_hi hM hh
  obtain ⟨G3, I3, J3, cM, hM3, hl, hgx⟩ := pm_term hM2 (xs (i + 1))
  have hC3 := ot_C_lo hC2 hl hgx
  have hn64 : 64 ≤ jv_n G := by have := ot_M_n hM2; omega
  have hn153 : jv_n G3 < 1000000 := by have := hM3.n; unfold ot_NM at this; omega
  obtain ⟨G', I', J', hV, hb⟩ := hN _ _ _ _ _ _ _ hC3 hM3
  refine ⟨G', I', J', ?_, hb⟩
  refine jw_aload1 dL_law_1866 ?_
  refine jw_aload0 dL_law_1867 ?_
  refine jw_iload3 dL_law_1868 ?_
  refine jw_iconst dL_law_1869 jv_c_iconst_1 ?_
  refine jw_iaddN dL_law_1870 ?_
  refine jw_sld dL_law_1871 (by omega) (by omega) rfl ?_
  refine jw_call (a := 1) (As := [.int (xs (i + 1))]) (rest := []) dL_law_1872 okX4_term inX4_term seX4_term mlL_235 (ci := 4) (T := TX4) (N := 8) rfl (ck hC.g) cC (by decide) rfl rfl (Nat.le_of_ble_eq_true rfl) (.inl rfl) ?_
  refine jw_aload2 dL_law_1875 ?_
  refine jw_aload0 dL_law_1876 ?_
  refine jw_iload3 dL_law_1877 ?_
  refine jw_iconst dL_law_1878 jv_c_iconst_1 ?_
  refine jw_iaddN dL_law_1879 ?_
  refine jw_sld dL_law_1880 (by omega) (by omega) rfl ?_
  refine jw_call (a := 64) (As := [.int (xs (i + 1))]) (rest := [.int (_)]) dL_law_1881 okX5_term inX5_term seX5_term mlL_238 (ci := 5) (T := TX5) (N := 35) rfl (mk hM2.g) cM (by decide) rfl rfl (Nat.le_of_ble_eq_true rfl) (.inr ⟨ot_ow_law hn64, (ot_ow_i ot_ow_nil), hn153⟩) ?_
  refine jw_icmp_eq dL_law_1884 (tgt := 1961) (by decide) (fun _ => ?_) (fun q => absurd rfl q)
  exact hV
set_option maxRecDepth 20000 in
theorem lw_case54 {nm : String} {Lx : Nat} {xs : Nat → Int32} {i : Nat} (hi : i + 6 ≤ Lx) (hL : Lx ≤ 3072) (hN : ot_Nx nm Lx xs i) : ot_At nm Lx xs i 1889 := fun G I J Y Z E K hC hM => by
  obtain ⟨I2, J2, cC, hC2, hh⟩ := pc_seed hC (xs (i + 1))
  have hM2 := ot_M_hi hM hh
  obtain ⟨G3, I3, J3, cM, hM3, hl, hgx⟩ := pm_seed hM2 (xs (i + 1))
  have hC3 := ot_C_lo hC2 hl hgx
  have hn64 : 64 ≤ jv_n G := by have := ot_M_n hM2; omega
  have hn153 : jv_n G3 < 1000000 := by have := hM3.n; unfold ot_NM at this; omega
  obtain ⟨G', I', J', hV, hb⟩ := hN _ _ _ _ _ _ _ hC3 hM3
  refine ⟨G', I', J', ?_, hb⟩
  refine jw_aload1 dL_law_1889 ?_
  refine jw_aload0 dL_law_1890 ?_
  refine jw_iload3 dL_law_1891 ?_
  refine jw_iconst dL_law_1892 jv_c_iconst_1 ?_
  refine jw_iaddN dL_law_1893 ?_
  refine jw_sld dL_law_1894 (by omega) (by omega) rfl ?_
  refine jw_call (a := 1) (As := [.int (xs (i + 1))]) (rest := []) dL_law_1895 okX4_seed inX4_seed seX4_seed mlL_239 (ci := 4) (T := TX4) (N := 8) rfl (ck hC.g) cC (by decide) rfl rfl (Nat.le_of_ble_eq_true rfl) (.inl rfl) ?_
  refine jw_aload2 dL_law_1898 ?_
  refine jw_aload0 dL_law_1899 ?_
  refine jw_iload3 dL_law_1900 ?_
  refine jw_iconst dL_law_1901 jv_c_iconst_1 ?_
  refine jw_iaddN dL_law_1902 ?_
  refine jw_sld dL_law_1903 (by omega) (by omega) rfl ?_
  refine jw_call (a := 64) (As := [.int (xs (i + 1))]) (rest := [.int (_)]) dL_law_1904 okX5_seed inX5_seed seX5_seed mlL_242 (ci := 5) (T := TX5) (N := 35) rfl (mk hM2.g) cM (by decide) rfl rfl (Nat.le_of_ble_eq_true rfl) (.inr ⟨ot_ow_law hn64, (ot_ow_i ot_ow_nil), hn153⟩) ?_
  refine jw_icmp_eq dL_law_1907 (tgt := 1961) (by decide) (fun _ => ?_) (fun q => absurd rfl q)
  exact hV
set_option maxRecDepth 20000 in
theorem lw_case55 {nm : String} {Lx : Nat} {xs : Nat → Int32} {i : Nat} (hi : i + 6 ≤ Lx) (hL : Lx ≤ 3072) (hN : ot_Nx nm Lx xs i) : ot_At nm Lx xs i 1912 := fun G I J Y Z E K hC hM => by
  obtain ⟨I2, J2, cC, hC2, hh⟩ := pc_image hC 
  have hM2 := ot_M_hi hM hh
  obtain ⟨G3, I3, J3, cM, hM3, hl, hgx⟩ := pm_image hM2 
  have hC3 := ot_C_lo hC2 hl hgx
  have hn64 : 64 ≤ jv_n G := by have := ot_M_n hM2; omega
  have hn153 : jv_n G3 < 1000000 := by have := hM3.n; unfold ot_NM at this; omega
  obtain ⟨G', I', J', hV, hb⟩ := hN _ _ _ _ _ _ _ hC3 hM3
  refine ⟨G', I', J', ?_, hb⟩
  refine jw_aload1 dL_law_1912 ?_
  refine jw_call (a := 1) (As := []) (rest := []) dL_law_1913 okX4_image inX4_image seX4_image mlL_243 (ci := 4) (T := TX4) (N := 8) rfl (ck hC.g) cC (by decide) rfl rfl (Nat.le_of_ble_eq_true rfl) (.inl rfl) ?_
  refine jw_aload2 dL_law_1916 ?_
  refine jw_call (a := 64) (As := []) (rest := [.int (_)]) dL_law_1917 okX5_image inX5_image seX5_image mlL_246 (ci := 5) (T := TX5) (N := 35) rfl (mk hM2.g) cM (by decide) rfl rfl (Nat.le_of_ble_eq_true rfl) (.inr ⟨ot_ow_law hn64, (ot_ow_i ot_ow_nil), hn153⟩) ?_
  refine jw_icmp_eq dL_law_1920 (tgt := 1961) (by decide) (fun _ => ?_) (fun q => absurd rfl q)
  exact hV
set_option maxRecDepth 20000 in
theorem lw_case56 {nm : String} {Lx : Nat} {xs : Nat → Int32} {i : Nat} (hi : i + 6 ≤ Lx) (hL : Lx ≤ 3072) (hN : ot_Nx nm Lx xs i) : ot_At nm Lx xs i 1925 := fun G I J Y Z E K hC hM => by
  obtain ⟨I2, J2, cC, hC2, hh⟩ := pc_back hC 
  have hM2 := ot_M_hi hM hh
  obtain ⟨G3, I3, J3, cM, hM3, hl, hgx⟩ := pm_back hM2 
  have hC3 := ot_C_lo hC2 hl hgx
  have hn64 : 64 ≤ jv_n G := by have := ot_M_n hM2; omega
  have hn153 : jv_n G3 < 1000000 := by have := hM3.n; unfold ot_NM at this; omega
  obtain ⟨G', I', J', hV, hb⟩ := hN _ _ _ _ _ _ _ hC3 hM3
  refine ⟨G', I', J', ?_, hb⟩
  refine jw_aload1 dL_law_1925 ?_
  refine jw_call (a := 1) (As := []) (rest := []) dL_law_1926 okX4_back inX4_back seX4_back mlL_247 (ci := 4) (T := TX4) (N := 8) rfl (ck hC.g) cC (by decide) rfl rfl (Nat.le_of_ble_eq_true rfl) (.inl rfl) ?_
  refine jw_aload2 dL_law_1929 ?_
  refine jw_call (a := 64) (As := []) (rest := [.int (_)]) dL_law_1930 okX5_back inX5_back seX5_back mlL_250 (ci := 5) (T := TX5) (N := 35) rfl (mk hM2.g) cM (by decide) rfl rfl (Nat.le_of_ble_eq_true rfl) (.inr ⟨ot_ow_law hn64, (ot_ow_i ot_ow_nil), hn153⟩) ?_
  refine jw_icmp_eq dL_law_1933 (tgt := 1961) (by decide) (fun _ => ?_) (fun q => absurd rfl q)
  exact hV
set_option maxRecDepth 20000 in
theorem lw_case57 {nm : String} {Lx : Nat} {xs : Nat → Int32} {i : Nat} (hi : i + 6 ≤ Lx) (hL : Lx ≤ 3072) (hN : ot_Nx nm Lx xs i) : ot_At nm Lx xs i 1938 := fun G I J Y Z E K hC hM => by
  obtain ⟨I2, J2, cC, hC2, hh⟩ := pc_status hC (xs (i + 1))
  have hM2 := ot_M_hi hM hh
  obtain ⟨G3, I3, J3, cM, hM3, hl, hgx⟩ := pm_status hM2 (xs (i + 1))
  have hC3 := ot_C_lo hC2 hl hgx
  have hn64 : 64 ≤ jv_n G := by have := ot_M_n hM2; omega
  have hn153 : jv_n G3 < 1000000 := by have := hM3.n; unfold ot_NM at this; omega
  obtain ⟨G', I', J', hV, hb⟩ := hN _ _ _ _ _ _ _ hC3 hM3
  refine ⟨G', I', J', ?_, hb⟩
  refine jw_aload1 dL_law_1938 ?_
  refine jw_aload0 dL_law_1939 ?_
  refine jw_iload3 dL_law_1940 ?_
  refine jw_iconst dL_law_1941 jv_c_iconst_1 ?_
  refine jw_iaddN dL_law_1942 ?_
  refine jw_sld dL_law_1943 (by omega) (by omega) rfl ?_
  refine jw_call (a := 1) (As := [.int (xs (i + 1))]) (rest := []) dL_law_1944 okX4_status inX4_status seX4_status mlL_251 (ci := 4) (T := TX4) (N := 8) rfl (ck hC.g) cC (by decide) rfl rfl (Nat.le_of_ble_eq_true rfl) (.inl rfl) ?_
  refine jw_aload2 dL_law_1947 ?_
  refine jw_aload0 dL_law_1948 ?_
  refine jw_iload3 dL_law_1949 ?_
  refine jw_iconst dL_law_1950 jv_c_iconst_1 ?_
  refine jw_iaddN dL_law_1951 ?_
  refine jw_sld dL_law_1952 (by omega) (by omega) rfl ?_
  refine jw_call (a := 64) (As := [.int (xs (i + 1))]) (rest := [.int (_)]) dL_law_1953 okX5_status inX5_status seX5_status mlL_254 (ci := 5) (T := TX5) (N := 35) rfl (mk hM2.g) cM (by decide) rfl rfl (Nat.le_of_ble_eq_true rfl) (.inr ⟨ot_ow_law hn64, (ot_ow_i ot_ow_nil), hn153⟩) ?_
  refine jw_icmp_eq dL_law_1956 (tgt := 1961) (by decide) (fun _ => ?_) (fun q => absurd rfl q)
  exact hV
