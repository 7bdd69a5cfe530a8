/-! ===== copy: the reference's two loops ===== -/
def ot_cpA (J : jv_J) (a b x n : Nat) : jv_J := fun q v => if q = b ∧ v < n then J a (x + v) else J q v
def ot_cpB (J : jv_J) (a b y n : Nat) : jv_J := fun q v => if q = b ∧ y ≤ v ∧ v < y + n then J a (v - y) else J q v
theorem ot_cpA_0 (J : jv_J) (a b x : Nat) : ot_cpA J a b x 0 = J := by funext q v; unfold ot_cpA; rw [if_neg (by omega)]
theorem ot_cpB_0 (J : jv_J) (a b y : Nat) : ot_cpB J a b y 0 = J := by funext q v; unfold ot_cpB; rw [if_neg (by omega)]
theorem ot_cpA_rd (J : jv_J) {a b x n q : Nat} (h : q ≠ b) : ot_cpA J a b x n q = J q := by funext v; unfold ot_cpA; rw [if_neg (by omega)]
theorem ot_cpB_rd (J : jv_J) {a b y n q : Nat} (h : q ≠ b) : ot_cpB J a b y n q = J q := by funext v; unfold ot_cpB; rw [if_neg (by omega)]
theorem ot_cpA_s (J : jv_J) (a b x n : Nat) : jv_up (ot_cpA J a b x n) b n (J a (x + n)) = ot_cpA J a b x (n + 1) := by
  funext q v
  rw [jv_up_def]
  unfold ot_cpA
  by_cases hq : q = b
  · rw [if_pos hq]
    by_cases hv : v = n
    · rw [if_pos hv, if_pos ⟨hq, by omega⟩, hv]
    · rw [if_neg hv]
      by_cases h2 : v < n
      · rw [if_pos ⟨hq, h2⟩, if_pos ⟨hq, by omega⟩]
      · rw [if_neg (by omega), if_neg (by omega), hq]
  · rw [if_neg hq, if_neg (by omega), if_neg (by omega)]
theorem ot_cpB_s (J : jv_J) (a b y n : Nat) : jv_up (ot_cpB J a b y n) b (y + n) (J a n) = ot_cpB J a b y (n + 1) := by
  funext q v
  rw [jv_up_def]
  unfold ot_cpB
  by_cases hq : q = b
  · rw [if_pos hq]
    by_cases hv : v = y + n
    · rw [if_pos hv, if_pos ⟨hq, by omega, by omega⟩, hv, Nat.add_sub_cancel_left]
    · rw [if_neg hv]
      by_cases h2 : y ≤ v ∧ v < y + n
      · rw [if_pos ⟨hq, h2⟩, if_pos ⟨hq, h2.1, by omega⟩]
      · rw [if_neg (by omega), if_neg (by omega), hq]
  · rw [if_neg hq, if_neg (by omega), if_neg (by omega)]
set_option maxRecDepth 20000 in
theorem om_copyLoops {G : jv_Gr} {I : jv_I} {J : jv_J} {Y Z : ot_Y} {E : ot_E} {K : Option ot_Y} (h : ot_M G I J Y Z E K) {s t x y u : Nat} (hs : s < 8) (ht : t < 8) (h1 : x + u ≤ 40) (h2 : y + u ≤ 40) : jv_V 8 mX5_copy 191 [.ref 64, .int (nI s), .int (nI t), .int (nI x), .int (nI y), .int (nI u), .int (nI 0)] [] G I J (some (.int (nI u))) G I (ot_cpB (ot_cpA J (64 + (5 + s)) (64 + 13) x u) (64 + 13) (64 + (5 + t)) y u) := by
  have loop2 : ∀ (n i : Nat) , u + 1 ≤ i + n → i ≤ u → jv_V 8 mX5_copy 225 [.ref 64, .int (nI s), .int (nI t), .int (nI x), .int (nI y), .int (nI u), .int (nI i)] [] G I (ot_cpB (ot_cpA J (64 + (5 + s)) (64 + 13) x u) (64 + 13) (64 + (5 + t)) y i) (some (.int (nI u))) G I (ot_cpB (ot_cpA J (64 + (5 + s)) (64 + 13) x u) (64 + 13) (64 + (5 + t)) y u) := by
    intro n
    induction n with
    | zero => intro i  h1 h2; omega
    | succ n ih =>
      intro i  h1 h2 
      refine jv_iload6 dX5_copy_225 ?_
      refine jv_iload5 dX5_copy_227 ?_
      refine jv_icmp_geN dX5_copy_229 (tgt := 257) (by decide) (by omega) (by omega) (fun hc229 => ?_) (fun hc229 => ?_)
      · refine jv_iload5 dX5_copy_257 ?_
        exact jv_iret dX5_copy_259 rfl rfl rfl rfl (by rw [show i = u by omega])
      · refine jv_aload0 dX5_copy_232 ?_
        refine jv_getR dX5_copy_233 flX5_21 rfl (mk h.g) (mr_rows h.g) ?_
        refine jv_iload2 dX5_copy_236 ?_
        refine jv_aald3N dX5_copy_237 (mk_rows h.g) (by omega) (by decide) (mr_row h.g ht) ?_
        refine jv_iload4 dX5_copy_238 ?_
        refine jv_iload6 dX5_copy_240 ?_
        refine jv_iaddN dX5_copy_242 ?_
        refine jv_aload0 dX5_copy_243 ?_
        refine jv_getR dX5_copy_244 flX5_24 rfl (mk h.g) (mr_carried h.g) ?_
        refine jv_iload6 dX5_copy_247 ?_
        refine jv_laldN dX5_copy_249 (mk_carried h.g) (by omega) (by decide) (show (ot_cpB (ot_cpA J (64 + (5 + s)) (64 + 13) x u) (64 + 13) (64 + (5 + t)) y i) (64 + 13) i = (ot_cpA J (64 + (5 + s)) (64 + 13) x u) (64 + 13) i from by rw [ot_cpB_rd _ (by omega)]) ?_
        refine jv_lastN dX5_copy_250 (mk_row h.g ht) (by omega) (by decide) ?_
        refine jv_iinc6N dX5_copy_251 rfl ?_
        refine jv_goto dX5_copy_254 (tgt := 225) (by decide) ?_
        rw [ot_cpB_s]
        exact ih (i + 1) (by omega) (by omega)
  have loop1 : ∀ (n i : Nat) , u + 1 ≤ i + n → i ≤ u → jv_V 8 mX5_copy 191 [.ref 64, .int (nI s), .int (nI t), .int (nI x), .int (nI y), .int (nI u), .int (nI i)] [] G I (ot_cpA J (64 + (5 + s)) (64 + 13) x i) (some (.int (nI u))) G I (ot_cpB (ot_cpA J (64 + (5 + s)) (64 + 13) x u) (64 + 13) (64 + (5 + t)) y u) := by
    intro n
    induction n with
    | zero => intro i  h1 h2; omega
    | succ n ih =>
      intro i  h1 h2 
      refine jv_iload6 dX5_copy_191 ?_
      refine jv_iload5 dX5_copy_193 ?_
      refine jv_icmp_geN dX5_copy_195 (tgt := 222) (by decide) (by omega) (by omega) (fun hc195 => ?_) (fun hc195 => ?_)
      · refine jv_iconst dX5_copy_222 jv_c_iconst_0 ?_
        refine jv_istore6 dX5_copy_223 rfl ?_
        rw [show i = u by omega]
        have q := loop2 (u + 1) 0 (by omega) (by omega)
        rw [ot_cpB_0] at q
        exact q
      · refine jv_aload0 dX5_copy_198 ?_
        refine jv_getR dX5_copy_199 flX5_24 rfl (mk h.g) (mr_carried h.g) ?_
        refine jv_iload6 dX5_copy_202 ?_
        refine jv_aload0 dX5_copy_204 ?_
        refine jv_getR dX5_copy_205 flX5_21 rfl (mk h.g) (mr_rows h.g) ?_
        refine jv_iload1 dX5_copy_208 ?_
        refine jv_aald3N dX5_copy_209 (mk_rows h.g) (by omega) (by decide) (mr_row h.g hs) ?_
        refine jv_iload3 dX5_copy_210 ?_
        refine jv_iload6 dX5_copy_211 ?_
        refine jv_iaddN dX5_copy_213 ?_
        refine jv_laldN dX5_copy_214 (mk_row h.g hs) (by omega) (by decide) (show (ot_cpA J (64 + (5 + s)) (64 + 13) x i) (64 + (5 + s)) (x + i) = J (64 + (5 + s)) (x + i) from by rw [ot_cpA_rd _ (by omega)]) ?_
        refine jv_lastN dX5_copy_215 (mk_carried h.g) (by omega) (by decide) ?_
        refine jv_iinc6N dX5_copy_216 rfl ?_
        refine jv_goto dX5_copy_219 (tgt := 191) (by decide) ?_
        rw [ot_cpA_s]
        exact ih (i + 1) (by omega) (by omega)
  have q := loop1 (u + 1) 0 (by omega) (by omega)
  rw [ot_cpA_0] at q
  exact q
