/-! ===== copy: the reference ===== -/
set_option maxRecDepth 20000 in
theorem pm_copy {G : jv_Gr} {I : jv_I} {J : jv_J} {Y Z : ot_Y} {E : ot_E} {K : Option ot_Y} (h : ot_M G I J Y Z E K) (p : Int32) (q : Int32) (i : Int32) (j : Int32) (n : Int32) : ot_mm 8 mX5_copy [.ref 64, .int p, .int q, .int i, .int j, .int n] G I J (ot_ans (ot_rcc Z p q i j n) n) Y (ot_zr Z (ot_rcc Z p q i j n)) (ot_pk (ot_rcc Z p q i j n) (ot_cpE E (ot_n p) (ot_n q) (ot_n i) (ot_n j) (ot_n n)) E) K := by
  have bn := yw_n h.w
  have bc := yw_c h.w
  have bw := yw_w h.w
  rcases ot_ct_cases h.z p q with ⟨e, s, t, hs, ht, rfl, rfl, a1, a2, a3⟩ | ⟨e, hn⟩ | ⟨e, s, t, hs, ht, rfl, rfl, a1⟩ | ⟨e, s, t, hs, ht, rfl, rfl, a1, a2⟩ | ⟨e, s, t, hs, ht, rfl, rfl, a1, a2, a3⟩
  · have z1 := (h.z.1 s hs).2.1 a1
    have z2 := (h.z.1 t ht).2.1 a2
    unfold ot_rcc
    rw [e]
    rw [if_pos rfl]
    by_cases hst : ot_stb Z (nI s) (nI t) i j n = true
    · have hb := hst
      unfold ot_stb at hb
      rw [decide_eq_true_eq, ot_n_nI (show s < 2 ^ 30 by omega), ot_n_nI (show t < 2 ^ 30 by omega)] at hb
      rw [if_pos hst]
      obtain ⟨x, hx, rfl⟩ := ot_of (n := 41) (show 0 ≤ i.toInt ∧ i.toInt < ((41 : Nat) : Int) by omega) (by decide)
      obtain ⟨y, hy, rfl⟩ := ot_of (n := 41) (show 0 ≤ j.toInt ∧ j.toInt < ((41 : Nat) : Int) by omega) (by decide)
      obtain ⟨u, hu, rfl⟩ := ot_of (n := 41) (show 0 ≤ n.toInt ∧ n.toInt < ((41 : Nat) : Int) by omega) (by decide)
      rw [nI_toInt (show x < 2 ^ 31 by omega), nI_toInt (show y < 2 ^ 31 by omega), nI_toInt (show u < 2 ^ 31 by omega)] at hb
      have ex := nI_toInt (show x < 2 ^ 31 by omega)
      have ey := nI_toInt (show y < 2 ^ 31 by omega)
      have eu := nI_toInt (show u < 2 ^ 31 by omega)
      rw [ot_n_nI (show s < 2 ^ 30 by omega), ot_n_nI (show t < 2 ^ 30 by omega), ot_n_nI (show x < 2 ^ 30 by omega), ot_n_nI (show y < 2 ^ 30 by omega), ot_n_nI (show u < 2 ^ 30 by omega)]
      have hs2 := ot_M_els (s := t) (J2 := (ot_cpB (ot_cpA J (64 + (5 + s)) (64 + 13) x u) (64 + 13) (64 + (5 + t)) y u)) (f := fun v => if y ≤ v ∧ v < y + u then E s (x + (v - y)) else E t v) h ht (fun q q1 q2 => by rw [ot_cpB_rd _ q2, ot_cpA_rd _ q1]) (fun _ v hv => by
        unfold ot_cpB
        by_cases hc : y ≤ v ∧ v < y + u
        · rw [if_pos ⟨rfl, hc.1, hc.2⟩, if_pos hc]
          unfold ot_cpA
          rw [if_pos ⟨rfl, by omega⟩]; exact nr_el h.s hs a1 (by omega)
        · rw [if_neg (fun z => hc z.2), if_neg hc, ot_cpA_rd _ (by omega)]; exact nr_el h.s ht a2 hv)
      refine ⟨G, I, (ot_cpB (ot_cpA J (64 + (5 + s)) (64 + 13) x u) (64 + 13) (64 + (5 + t)) y u), ?_, hs2, fun q hq => ⟨rfl, by rw [ot_cpB_rd _ (by omega), ot_cpA_rd _ (by omega)]⟩, ot_gx.rf⟩
      refine jv_enter okX5_copy (L := [.ref 64, .int (nI s), .int (nI t), .int (nI x), .int (nI y), .int (nI u), .null]) rfl (Nat.le_of_ble_eq_true rfl) ?_
      refine jv_iload1 dX5_copy_0 ?_
      refine jv_i2l dX5_copy_1 rfl ?_
      refine jv_lconst dX5_copy_2 (v := lN 0) rfl ?_
      refine jv_ldc2 dX5_copy_3 cnX5_98 ?_
      refine jv_s31 dX5_copy_6 okX5_in stX5_in mlX5_83 (om_inC _ (a := 0) (b := 7) (by decide) (by decide)) (by decide) (Nat.le_of_ble_eq_true rfl) ?_
      refine jv_if_eqB dX5_copy_9 (tgt := 24) (by decide) (fun h9 => absurd (ot_7 hs) h9) (fun h9 => ?_)
      refine jv_iload2 dX5_copy_12 ?_
      refine jv_i2l dX5_copy_13 rfl ?_
      refine jv_lconst dX5_copy_14 (v := lN 0) rfl ?_
      refine jv_ldc2 dX5_copy_15 cnX5_98 ?_
      refine jv_s31 dX5_copy_18 okX5_in stX5_in mlX5_83 (om_inC _ (a := 0) (b := 7) (by decide) (by decide)) (by decide) (Nat.le_of_ble_eq_true rfl) ?_
      refine jv_if_neB dX5_copy_21 (tgt := 31) (by decide) (fun h21 => ?_) (fun h21 => absurd (ot_7 ht) h21)
      refine jv_aload0 dX5_copy_31 ?_
      refine jv_getR dX5_copy_32 flX5_7 rfl (mk h.g) (mr_shelf h.g) ?_
      refine jv_iload1 dX5_copy_35 ?_
      refine jv_ialdN dX5_copy_36 (mk_shelf h.g) (by omega) (by decide) (nr_tag h.s hs) ?_
      refine jv_iconst dX5_copy_37 jv_c_iconst_2 ?_
      refine jv_icmp_eqN dX5_copy_38 (tgt := 86) (by decide) (by omega) (by omega) (fun h38 => by omega) (fun h38 => ?_)
      refine jv_aload0 dX5_copy_41 ?_
      refine jv_getR dX5_copy_42 flX5_7 rfl (mk h.g) (mr_shelf h.g) ?_
      refine jv_iload2 dX5_copy_45 ?_
      refine jv_ialdN dX5_copy_46 (mk_shelf h.g) (by omega) (by decide) (nr_tag h.s ht) ?_
      refine jv_iconst dX5_copy_47 jv_c_iconst_2 ?_
      refine jv_icmp_eqN dX5_copy_48 (tgt := 86) (by decide) (by omega) (by omega) (fun h48 => by omega) (fun h48 => ?_)
      refine jv_aload0 dX5_copy_51 ?_
      refine jv_getR dX5_copy_52 flX5_7 rfl (mk h.g) (mr_shelf h.g) ?_
      refine jv_iload1 dX5_copy_55 ?_
      refine jv_ialdN dX5_copy_56 (mk_shelf h.g) (by omega) (by decide) (nr_tag h.s hs) ?_
      refine jv_iconst dX5_copy_57 jv_c_iconst_1 ?_
      refine jv_icmp_neN dX5_copy_58 (tgt := 93) (by decide) (by omega) (by omega) (fun h58 => by omega) (fun h58 => ?_)
      refine jv_aload0 dX5_copy_61 ?_
      refine jv_getR dX5_copy_62 flX5_7 rfl (mk h.g) (mr_shelf h.g) ?_
      refine jv_iload2 dX5_copy_65 ?_
      refine jv_ialdN dX5_copy_66 (mk_shelf h.g) (by omega) (by decide) (nr_tag h.s ht) ?_
      refine jv_iconst dX5_copy_67 jv_c_iconst_1 ?_
      refine jv_icmp_neN dX5_copy_68 (tgt := 93) (by decide) (by omega) (by omega) (fun h68 => by omega) (fun h68 => ?_)
      refine jv_aload0 dX5_copy_71 ?_
      refine jv_getR dX5_copy_72 flX5_13 rfl (mk h.g) (mr_rowSort h.g) ?_
      refine jv_iload1 dX5_copy_75 ?_
      refine jv_ialdN dX5_copy_76 (mk_rowSort h.g) (by omega) (by decide) (nr_sort h.s hs a1) ?_
      refine jv_aload0 dX5_copy_77 ?_
      refine jv_getR dX5_copy_78 flX5_13 rfl (mk h.g) (mr_rowSort h.g) ?_
      refine jv_iload2 dX5_copy_81 ?_
      refine jv_ialdN dX5_copy_82 (mk_rowSort h.g) (by omega) (by decide) (nr_sort h.s ht a2) ?_
      refine jv_icmp_eqN dX5_copy_83 (tgt := 93) (by decide) (by omega) (by omega) (fun h83 => ?_) (fun h83 => by omega)
      refine jv_aload0 dX5_copy_93 ?_
      refine jv_getR dX5_copy_94 flX5_7 rfl (mk h.g) (mr_shelf h.g) ?_
      refine jv_iload1 dX5_copy_97 ?_
      refine jv_ialdN dX5_copy_98 (mk_shelf h.g) (by omega) (by decide) (nr_tag h.s hs) ?_
      refine jv_if_eqN dX5_copy_99 (tgt := 111) (by decide) (by omega) (fun h99 => by omega) (fun h99 => ?_)
      refine jv_aload0 dX5_copy_102 ?_
      refine jv_getR dX5_copy_103 flX5_7 rfl (mk h.g) (mr_shelf h.g) ?_
      refine jv_iload2 dX5_copy_106 ?_
      refine jv_ialdN dX5_copy_107 (mk_shelf h.g) (by omega) (by decide) (nr_tag h.s ht) ?_
      refine jv_if_neN dX5_copy_108 (tgt := 118) (by decide) (by omega) (fun h108 => ?_) (fun h108 => by omega)
      refine jv_iload5 dX5_copy_118 ?_
      refine jv_if_ltN dX5_copy_120 (tgt := 181) (by decide) (by omega) ?_
      refine jv_iload3 dX5_copy_123 ?_
      refine jv_if_ltN dX5_copy_124 (tgt := 181) (by decide) (by omega) ?_
      refine jv_iload4 dX5_copy_127 ?_
      refine jv_if_ltN dX5_copy_129 (tgt := 181) (by decide) (by omega) ?_
      refine jv_iload5 dX5_copy_132 ?_
      refine jv_aload0 dX5_copy_134 ?_
      refine jv_getR dX5_copy_135 flX5_16 rfl (mk h.g) (mr_rowSize h.g) ?_
      refine jv_iload1 dX5_copy_138 ?_
      refine jv_ialdN dX5_copy_139 (mk_rowSize h.g) (by omega) (by decide) (nr_size h.s hs a1) ?_
      refine jv_icmp_gtN dX5_copy_140 (tgt := 181) (by decide) (by omega) (by omega) (fun h140 => by omega) (fun h140 => ?_)
      refine jv_iload5 dX5_copy_143 ?_
      refine jv_aload0 dX5_copy_145 ?_
      refine jv_getR dX5_copy_146 flX5_16 rfl (mk h.g) (mr_rowSize h.g) ?_
      refine jv_iload2 dX5_copy_149 ?_
      refine jv_ialdN dX5_copy_150 (mk_rowSize h.g) (by omega) (by decide) (nr_size h.s ht a2) ?_
      refine jv_icmp_gtN dX5_copy_151 (tgt := 181) (by decide) (by omega) (by omega) (fun h151 => by omega) (fun h151 => ?_)
      refine jv_iload3 dX5_copy_154 ?_
      refine jv_aload0 dX5_copy_155 ?_
      refine jv_getR dX5_copy_156 flX5_16 rfl (mk h.g) (mr_rowSize h.g) ?_
      refine jv_iload1 dX5_copy_159 ?_
      refine jv_ialdN dX5_copy_160 (mk_rowSize h.g) (by omega) (by decide) (nr_size h.s hs a1) ?_
      refine jv_iload5 dX5_copy_161 ?_
      refine jv_isubN dX5_copy_163 (by omega) ?_
      refine jv_icmp_gtN dX5_copy_164 (tgt := 181) (by decide) (by omega) (by omega) (fun h164 => by omega) (fun h164 => ?_)
      refine jv_iload4 dX5_copy_167 ?_
      refine jv_aload0 dX5_copy_169 ?_
      refine jv_getR dX5_copy_170 flX5_16 rfl (mk h.g) (mr_rowSize h.g) ?_
      refine jv_iload2 dX5_copy_173 ?_
      refine jv_ialdN dX5_copy_174 (mk_rowSize h.g) (by omega) (by decide) (nr_size h.s ht a2) ?_
      refine jv_iload5 dX5_copy_175 ?_
      refine jv_isubN dX5_copy_177 (by omega) ?_
      refine jv_icmp_leN dX5_copy_178 (tgt := 188) (by decide) (by omega) (by omega) (fun h178 => ?_) (fun h178 => by omega)
      refine jv_iconst dX5_copy_188 jv_c_iconst_0 ?_
      refine jv_istore6 dX5_copy_189 rfl ?_
      exact om_copyLoops h hs ht (by omega) (by omega)
    · have hb : ¬ ((0 ≤ i.toInt ∧ 0 ≤ n.toInt ∧ i.toInt + n.toInt ≤ Z 2 s) ∧ (0 ≤ j.toInt ∧ j.toInt + n.toInt ≤ Z 2 t)) := fun z => hst (by unfold ot_stb; rw [decide_eq_true_eq, ot_n_nI (show s < 2 ^ 30 by omega), ot_n_nI (show t < 2 ^ 30 by omega)]; exact z)
      rw [if_neg hst]
      obtain ⟨I2, hC, h2, h3⟩ := om_refuse2 h
      refine ⟨G, I2, J, ?_, h2, h3, ot_gx.rf⟩
      refine jv_enter okX5_copy (L := [.ref 64, .int (nI s), .int (nI t), .int i, .int j, .int n, .null]) rfl (Nat.le_of_ble_eq_true rfl) ?_
      refine jv_iload1 dX5_copy_0 ?_
      refine jv_i2l dX5_copy_1 rfl ?_
      refine jv_lconst dX5_copy_2 (v := lN 0) rfl ?_
      refine jv_ldc2 dX5_copy_3 cnX5_98 ?_
      refine jv_s31 dX5_copy_6 okX5_in stX5_in mlX5_83 (om_inC _ (a := 0) (b := 7) (by decide) (by decide)) (by decide) (Nat.le_of_ble_eq_true rfl) ?_
      refine jv_if_eqB dX5_copy_9 (tgt := 24) (by decide) (fun h9 => absurd (ot_7 hs) h9) (fun h9 => ?_)
      refine jv_iload2 dX5_copy_12 ?_
      refine jv_i2l dX5_copy_13 rfl ?_
      refine jv_lconst dX5_copy_14 (v := lN 0) rfl ?_
      refine jv_ldc2 dX5_copy_15 cnX5_98 ?_
      refine jv_s31 dX5_copy_18 okX5_in stX5_in mlX5_83 (om_inC _ (a := 0) (b := 7) (by decide) (by decide)) (by decide) (Nat.le_of_ble_eq_true rfl) ?_
      refine jv_if_neB dX5_copy_21 (tgt := 31) (by decide) (fun h21 => ?_) (fun h21 => absurd (ot_7 ht) h21)
      refine jv_aload0 dX5_copy_31 ?_
      refine jv_getR dX5_copy_32 flX5_7 rfl (mk h.g) (mr_shelf h.g) ?_
      refine jv_iload1 dX5_copy_35 ?_
      refine jv_ialdN dX5_copy_36 (mk_shelf h.g) (by omega) (by decide) (nr_tag h.s hs) ?_
      refine jv_iconst dX5_copy_37 jv_c_iconst_2 ?_
      refine jv_icmp_eqN dX5_copy_38 (tgt := 86) (by decide) (by omega) (by omega) (fun h38 => by omega) (fun h38 => ?_)
      refine jv_aload0 dX5_copy_41 ?_
      refine jv_getR dX5_copy_42 flX5_7 rfl (mk h.g) (mr_shelf h.g) ?_
      refine jv_iload2 dX5_copy_45 ?_
      refine jv_ialdN dX5_copy_46 (mk_shelf h.g) (by omega) (by decide) (nr_tag h.s ht) ?_
      refine jv_iconst dX5_copy_47 jv_c_iconst_2 ?_
      refine jv_icmp_eqN dX5_copy_48 (tgt := 86) (by decide) (by omega) (by omega) (fun h48 => by omega) (fun h48 => ?_)
      refine jv_aload0 dX5_copy_51 ?_
      refine jv_getR dX5_copy_52 flX5_7 rfl (mk h.g) (mr_shelf h.g) ?_
      refine jv_iload1 dX5_copy_55 ?_
      refine jv_ialdN dX5_copy_56 (mk_shelf h.g) (by omega) (by decide) (nr_tag h.s hs) ?_
      refine jv_iconst dX5_copy_57 jv_c_iconst_1 ?_
      refine jv_icmp_neN dX5_copy_58 (tgt := 93) (by decide) (by omega) (by omega) (fun h58 => by omega) (fun h58 => ?_)
      refine jv_aload0 dX5_copy_61 ?_
      refine jv_getR dX5_copy_62 flX5_7 rfl (mk h.g) (mr_shelf h.g) ?_
      refine jv_iload2 dX5_copy_65 ?_
      refine jv_ialdN dX5_copy_66 (mk_shelf h.g) (by omega) (by decide) (nr_tag h.s ht) ?_
      refine jv_iconst dX5_copy_67 jv_c_iconst_1 ?_
      refine jv_icmp_neN dX5_copy_68 (tgt := 93) (by decide) (by omega) (by omega) (fun h68 => by omega) (fun h68 => ?_)
      refine jv_aload0 dX5_copy_71 ?_
      refine jv_getR dX5_copy_72 flX5_13 rfl (mk h.g) (mr_rowSort h.g) ?_
      refine jv_iload1 dX5_copy_75 ?_
      refine jv_ialdN dX5_copy_76 (mk_rowSort h.g) (by omega) (by decide) (nr_sort h.s hs a1) ?_
      refine jv_aload0 dX5_copy_77 ?_
      refine jv_getR dX5_copy_78 flX5_13 rfl (mk h.g) (mr_rowSort h.g) ?_
      refine jv_iload2 dX5_copy_81 ?_
      refine jv_ialdN dX5_copy_82 (mk_rowSort h.g) (by omega) (by decide) (nr_sort h.s ht a2) ?_
      refine jv_icmp_eqN dX5_copy_83 (tgt := 93) (by decide) (by omega) (by omega) (fun h83 => ?_) (fun h83 => by omega)
      refine jv_aload0 dX5_copy_93 ?_
      refine jv_getR dX5_copy_94 flX5_7 rfl (mk h.g) (mr_shelf h.g) ?_
      refine jv_iload1 dX5_copy_97 ?_
      refine jv_ialdN dX5_copy_98 (mk_shelf h.g) (by omega) (by decide) (nr_tag h.s hs) ?_
      refine jv_if_eqN dX5_copy_99 (tgt := 111) (by decide) (by omega) (fun h99 => by omega) (fun h99 => ?_)
      refine jv_aload0 dX5_copy_102 ?_
      refine jv_getR dX5_copy_103 flX5_7 rfl (mk h.g) (mr_shelf h.g) ?_
      refine jv_iload2 dX5_copy_106 ?_
      refine jv_ialdN dX5_copy_107 (mk_shelf h.g) (by omega) (by decide) (nr_tag h.s ht) ?_
      refine jv_if_neN dX5_copy_108 (tgt := 118) (by decide) (by omega) (fun h108 => ?_) (fun h108 => by omega)
      refine jv_iload5 dX5_copy_118 ?_
      refine jv_if_lt dX5_copy_120 (tgt := 181) (by decide) (fun h120 => ?_) (fun h120 => ?_)
      · refine jv_aload0 dX5_copy_181 ?_
        refine jv_bipush dX5_copy_182 jv_c_bipush_m2 ?_
        refine jv_v11 dX5_copy_184 okX5_refuse inX5_refuse seX5_refuse mlX5_104 (ci := 5) (T := TX5) (N := 35) rfl (mk h.g) hC (by decide) (Nat.le_of_ble_eq_true rfl) ?_
        exact jv_iret dX5_copy_187 rfl rfl rfl rfl rfl
      · rw [Int32.lt_iff_toInt_lt, show (0 : Int32).toInt = 0 by decide] at h120
        refine jv_iload3 dX5_copy_123 ?_
        refine jv_if_lt dX5_copy_124 (tgt := 181) (by decide) (fun h124 => ?_) (fun h124 => ?_)
        · refine jv_aload0 dX5_copy_181 ?_
          refine jv_bipush dX5_copy_182 jv_c_bipush_m2 ?_
          refine jv_v11 dX5_copy_184 okX5_refuse inX5_refuse seX5_refuse mlX5_104 (ci := 5) (T := TX5) (N := 35) rfl (mk h.g) hC (by decide) (Nat.le_of_ble_eq_true rfl) ?_
          exact jv_iret dX5_copy_187 rfl rfl rfl rfl rfl
        · rw [Int32.lt_iff_toInt_lt, show (0 : Int32).toInt = 0 by decide] at h124
          refine jv_iload4 dX5_copy_127 ?_
          refine jv_if_lt dX5_copy_129 (tgt := 181) (by decide) (fun h129 => ?_) (fun h129 => ?_)
          · refine jv_aload0 dX5_copy_181 ?_
            refine jv_bipush dX5_copy_182 jv_c_bipush_m2 ?_
            refine jv_v11 dX5_copy_184 okX5_refuse inX5_refuse seX5_refuse mlX5_104 (ci := 5) (T := TX5) (N := 35) rfl (mk h.g) hC (by decide) (Nat.le_of_ble_eq_true rfl) ?_
            exact jv_iret dX5_copy_187 rfl rfl rfl rfl rfl
          · rw [Int32.lt_iff_toInt_lt, show (0 : Int32).toInt = 0 by decide] at h129
            refine jv_iload5 dX5_copy_132 ?_
            refine jv_aload0 dX5_copy_134 ?_
            refine jv_getR dX5_copy_135 flX5_16 rfl (mk h.g) (mr_rowSize h.g) ?_
            refine jv_iload1 dX5_copy_138 ?_
            refine jv_ialdN dX5_copy_139 (mk_rowSize h.g) (by omega) (by decide) (nr_size h.s hs a1) ?_
            refine jv_icmp_gt dX5_copy_140 (tgt := 181) (by decide) (fun h140 => ?_) (fun h140 => ?_)
            · refine jv_aload0 dX5_copy_181 ?_
              refine jv_bipush dX5_copy_182 jv_c_bipush_m2 ?_
              refine jv_v11 dX5_copy_184 okX5_refuse inX5_refuse seX5_refuse mlX5_104 (ci := 5) (T := TX5) (N := 35) rfl (mk h.g) hC (by decide) (Nat.le_of_ble_eq_true rfl) ?_
              exact jv_iret dX5_copy_187 rfl rfl rfl rfl rfl
            · rw [Int32.lt_iff_toInt_lt, nI_toInt (show Z 2 s < 2 ^ 31 by omega)] at h140
              refine jv_iload5 dX5_copy_143 ?_
              refine jv_aload0 dX5_copy_145 ?_
              refine jv_getR dX5_copy_146 flX5_16 rfl (mk h.g) (mr_rowSize h.g) ?_
              refine jv_iload2 dX5_copy_149 ?_
              refine jv_ialdN dX5_copy_150 (mk_rowSize h.g) (by omega) (by decide) (nr_size h.s ht a2) ?_
              refine jv_icmp_gt dX5_copy_151 (tgt := 181) (by decide) (fun h151 => ?_) (fun h151 => ?_)
              · refine jv_aload0 dX5_copy_181 ?_
                refine jv_bipush dX5_copy_182 jv_c_bipush_m2 ?_
                refine jv_v11 dX5_copy_184 okX5_refuse inX5_refuse seX5_refuse mlX5_104 (ci := 5) (T := TX5) (N := 35) rfl (mk h.g) hC (by decide) (Nat.le_of_ble_eq_true rfl) ?_
                exact jv_iret dX5_copy_187 rfl rfl rfl rfl rfl
              · rw [Int32.lt_iff_toInt_lt, nI_toInt (show Z 2 t < 2 ^ 31 by omega)] at h151
                obtain ⟨u, hu, rfl⟩ := ot_of (n := 41) (show 0 ≤ n.toInt ∧ n.toInt < ((41 : Nat) : Int) by omega) (by decide)
                have eu := nI_toInt (show u < 2 ^ 31 by omega)
                refine jv_iload3 dX5_copy_154 ?_
                refine jv_aload0 dX5_copy_155 ?_
                refine jv_getR dX5_copy_156 flX5_16 rfl (mk h.g) (mr_rowSize h.g) ?_
                refine jv_iload1 dX5_copy_159 ?_
                refine jv_ialdN dX5_copy_160 (mk_rowSize h.g) (by omega) (by decide) (nr_size h.s hs a1) ?_
                refine jv_iload5 dX5_copy_161 ?_
                refine jv_isub dX5_copy_163 ?_
                refine jv_icmp_gt dX5_copy_164 (tgt := 181) (by decide) (fun h164 => ?_) (fun h164 => ?_)
                · refine jv_aload0 dX5_copy_181 ?_
                  refine jv_bipush dX5_copy_182 jv_c_bipush_m2 ?_
                  refine jv_v11 dX5_copy_184 okX5_refuse inX5_refuse seX5_refuse mlX5_104 (ci := 5) (T := TX5) (N := 35) rfl (mk h.g) hC (by decide) (Nat.le_of_ble_eq_true rfl) ?_
                  exact jv_iret dX5_copy_187 rfl rfl rfl rfl rfl
                · rw [Int32.lt_iff_toInt_lt, pk_sub_toInt (by omega) (by omega)] at h164
                  refine jv_iload4 dX5_copy_167 ?_
                  refine jv_aload0 dX5_copy_169 ?_
                  refine jv_getR dX5_copy_170 flX5_16 rfl (mk h.g) (mr_rowSize h.g) ?_
                  refine jv_iload2 dX5_copy_173 ?_
                  refine jv_ialdN dX5_copy_174 (mk_rowSize h.g) (by omega) (by decide) (nr_size h.s ht a2) ?_
                  refine jv_iload5 dX5_copy_175 ?_
                  refine jv_isub dX5_copy_177 ?_
                  refine jv_icmp_le dX5_copy_178 (tgt := 188) (by decide) (fun h178 => ?_) (fun h178 => ?_)
                  · rw [Int32.le_iff_toInt_le, pk_sub_toInt (by omega) (by omega)] at h178
                    exact absurd (by omega) hb
                  · refine jv_aload0 dX5_copy_181 ?_
                    refine jv_bipush dX5_copy_182 jv_c_bipush_m2 ?_
                    refine jv_v11 dX5_copy_184 okX5_refuse inX5_refuse seX5_refuse mlX5_104 (ci := 5) (T := TX5) (N := 35) rfl (mk h.g) hC (by decide) (Nat.le_of_ble_eq_true rfl) ?_
                    exact jv_iret dX5_copy_187 rfl rfl rfl rfl rfl
  · unfold ot_rcc
    rw [e]
    rw [if_neg (by decide)]
    obtain ⟨I2, hC, h2, h3⟩ := om_refuse2 h
    refine ⟨G, I2, J, ?_, h2, h3, ot_gx.rf⟩
    refine jv_enter okX5_copy (L := [.ref 64, .int p, .int q, .int i, .int j, .int n, .null]) rfl (Nat.le_of_ble_eq_true rfl) ?_
    refine jv_iload1 dX5_copy_0 ?_
    refine jv_i2l dX5_copy_1 rfl ?_
    refine jv_lconst dX5_copy_2 (v := lN 0) rfl ?_
    refine jv_ldc2 dX5_copy_3 cnX5_98 ?_
    refine jv_s31 dX5_copy_6 okX5_in stX5_in mlX5_83 (om_inC _ (a := 0) (b := 7) (by decide) (by decide)) (by decide) (Nat.le_of_ble_eq_true rfl) ?_
    refine jv_if_eqB dX5_copy_9 (tgt := 24) (by decide) (fun h9 => ?_) (fun h9 => ?_)
    · refine jv_aload0 dX5_copy_24 ?_
      refine jv_bipush dX5_copy_25 jv_c_bipush_m2 ?_
      refine jv_v11 dX5_copy_27 okX5_refuse inX5_refuse seX5_refuse mlX5_104 (ci := 5) (T := TX5) (N := 35) rfl (mk h.g) hC (by decide) (Nat.le_of_ble_eq_true rfl) ?_
      exact jv_iret dX5_copy_30 rfl rfl rfl rfl rfl
    · refine jv_iload2 dX5_copy_12 ?_
      refine jv_i2l dX5_copy_13 rfl ?_
      refine jv_lconst dX5_copy_14 (v := lN 0) rfl ?_
      refine jv_ldc2 dX5_copy_15 cnX5_98 ?_
      refine jv_s31 dX5_copy_18 okX5_in stX5_in mlX5_83 (om_inC _ (a := 0) (b := 7) (by decide) (by decide)) (by decide) (Nat.le_of_ble_eq_true rfl) ?_
      refine jv_if_neB dX5_copy_21 (tgt := 31) (by decide) (fun h21 => absurd ⟨⟨h9.1, by omega⟩, ⟨h21.1, by omega⟩⟩ hn) (fun h21 => ?_)
      refine jv_aload0 dX5_copy_24 ?_
      refine jv_bipush dX5_copy_25 jv_c_bipush_m2 ?_
      refine jv_v11 dX5_copy_27 okX5_refuse inX5_refuse seX5_refuse mlX5_104 (ci := 5) (T := TX5) (N := 35) rfl (mk h.g) hC (by decide) (Nat.le_of_ble_eq_true rfl) ?_
      exact jv_iret dX5_copy_30 rfl rfl rfl rfl rfl
  · unfold ot_rcc
    rw [e]
    rw [if_neg (by decide)]
    have zs := (h.z.1 s hs).1
    have zt := (h.z.1 t ht).1
    obtain ⟨I2, hC, h2, h3⟩ := om_refuse3 h
    refine ⟨G, I2, J, ?_, h2, h3, ot_gx.rf⟩
    refine jv_enter okX5_copy (L := [.ref 64, .int (nI s), .int (nI t), .int i, .int j, .int n, .null]) rfl (Nat.le_of_ble_eq_true rfl) ?_
    refine jv_iload1 dX5_copy_0 ?_
    refine jv_i2l dX5_copy_1 rfl ?_
    refine jv_lconst dX5_copy_2 (v := lN 0) rfl ?_
    refine jv_ldc2 dX5_copy_3 cnX5_98 ?_
    refine jv_s31 dX5_copy_6 okX5_in stX5_in mlX5_83 (om_inC _ (a := 0) (b := 7) (by decide) (by decide)) (by decide) (Nat.le_of_ble_eq_true rfl) ?_
    refine jv_if_eqB dX5_copy_9 (tgt := 24) (by decide) (fun h9 => absurd (ot_7 hs) h9) (fun h9 => ?_)
    refine jv_iload2 dX5_copy_12 ?_
    refine jv_i2l dX5_copy_13 rfl ?_
    refine jv_lconst dX5_copy_14 (v := lN 0) rfl ?_
    refine jv_ldc2 dX5_copy_15 cnX5_98 ?_
    refine jv_s31 dX5_copy_18 okX5_in stX5_in mlX5_83 (om_inC _ (a := 0) (b := 7) (by decide) (by decide)) (by decide) (Nat.le_of_ble_eq_true rfl) ?_
    refine jv_if_neB dX5_copy_21 (tgt := 31) (by decide) (fun h21 => ?_) (fun h21 => absurd (ot_7 ht) h21)
    refine jv_aload0 dX5_copy_31 ?_
    refine jv_getR dX5_copy_32 flX5_7 rfl (mk h.g) (mr_shelf h.g) ?_
    refine jv_iload1 dX5_copy_35 ?_
    refine jv_ialdN dX5_copy_36 (mk_shelf h.g) (by omega) (by decide) (nr_tag h.s hs) ?_
    refine jv_iconst dX5_copy_37 jv_c_iconst_2 ?_
    refine jv_icmp_eqN dX5_copy_38 (tgt := 86) (by decide) (by omega) (by omega) (fun h38 => ?_) (fun h38 => ?_)
    · refine jv_aload0 dX5_copy_86 ?_
      refine jv_bipush dX5_copy_87 jv_c_bipush_m3 ?_
      refine jv_v11 dX5_copy_89 okX5_refuse inX5_refuse seX5_refuse mlX5_104 (ci := 5) (T := TX5) (N := 35) rfl (mk h.g) hC (by decide) (Nat.le_of_ble_eq_true rfl) ?_
      exact jv_iret dX5_copy_92 rfl rfl rfl rfl rfl
    · refine jv_aload0 dX5_copy_41 ?_
      refine jv_getR dX5_copy_42 flX5_7 rfl (mk h.g) (mr_shelf h.g) ?_
      refine jv_iload2 dX5_copy_45 ?_
      refine jv_ialdN dX5_copy_46 (mk_shelf h.g) (by omega) (by decide) (nr_tag h.s ht) ?_
      refine jv_iconst dX5_copy_47 jv_c_iconst_2 ?_
      refine jv_icmp_eqN dX5_copy_48 (tgt := 86) (by decide) (by omega) (by omega) (fun h48 => ?_) (fun h48 => by omega)
      refine jv_aload0 dX5_copy_86 ?_
      refine jv_bipush dX5_copy_87 jv_c_bipush_m3 ?_
      refine jv_v11 dX5_copy_89 okX5_refuse inX5_refuse seX5_refuse mlX5_104 (ci := 5) (T := TX5) (N := 35) rfl (mk h.g) hC (by decide) (Nat.le_of_ble_eq_true rfl) ?_
      exact jv_iret dX5_copy_92 rfl rfl rfl rfl rfl
  · unfold ot_rcc
    rw [e]
    rw [if_neg (by decide)]
    have zs := (h.z.1 s hs).1
    have zt := (h.z.1 t ht).1
    obtain ⟨I2, hC, h2, h3⟩ := om_refuse4 h
    refine ⟨G, I2, J, ?_, h2, h3, ot_gx.rf⟩
    refine jv_enter okX5_copy (L := [.ref 64, .int (nI s), .int (nI t), .int i, .int j, .int n, .null]) rfl (Nat.le_of_ble_eq_true rfl) ?_
    refine jv_iload1 dX5_copy_0 ?_
    refine jv_i2l dX5_copy_1 rfl ?_
    refine jv_lconst dX5_copy_2 (v := lN 0) rfl ?_
    refine jv_ldc2 dX5_copy_3 cnX5_98 ?_
    refine jv_s31 dX5_copy_6 okX5_in stX5_in mlX5_83 (om_inC _ (a := 0) (b := 7) (by decide) (by decide)) (by decide) (Nat.le_of_ble_eq_true rfl) ?_
    refine jv_if_eqB dX5_copy_9 (tgt := 24) (by decide) (fun h9 => absurd (ot_7 hs) h9) (fun h9 => ?_)
    refine jv_iload2 dX5_copy_12 ?_
    refine jv_i2l dX5_copy_13 rfl ?_
    refine jv_lconst dX5_copy_14 (v := lN 0) rfl ?_
    refine jv_ldc2 dX5_copy_15 cnX5_98 ?_
    refine jv_s31 dX5_copy_18 okX5_in stX5_in mlX5_83 (om_inC _ (a := 0) (b := 7) (by decide) (by decide)) (by decide) (Nat.le_of_ble_eq_true rfl) ?_
    refine jv_if_neB dX5_copy_21 (tgt := 31) (by decide) (fun h21 => ?_) (fun h21 => absurd (ot_7 ht) h21)
    refine jv_aload0 dX5_copy_31 ?_
    refine jv_getR dX5_copy_32 flX5_7 rfl (mk h.g) (mr_shelf h.g) ?_
    refine jv_iload1 dX5_copy_35 ?_
    refine jv_ialdN dX5_copy_36 (mk_shelf h.g) (by omega) (by decide) (nr_tag h.s hs) ?_
    refine jv_iconst dX5_copy_37 jv_c_iconst_2 ?_
    refine jv_icmp_eqN dX5_copy_38 (tgt := 86) (by decide) (by omega) (by omega) (fun h38 => by omega) (fun h38 => ?_)
    refine jv_aload0 dX5_copy_41 ?_
    refine jv_getR dX5_copy_42 flX5_7 rfl (mk h.g) (mr_shelf h.g) ?_
    refine jv_iload2 dX5_copy_45 ?_
    refine jv_ialdN dX5_copy_46 (mk_shelf h.g) (by omega) (by decide) (nr_tag h.s ht) ?_
    refine jv_iconst dX5_copy_47 jv_c_iconst_2 ?_
    refine jv_icmp_eqN dX5_copy_48 (tgt := 86) (by decide) (by omega) (by omega) (fun h48 => by omega) (fun h48 => ?_)
    refine jv_aload0 dX5_copy_51 ?_
    refine jv_getR dX5_copy_52 flX5_7 rfl (mk h.g) (mr_shelf h.g) ?_
    refine jv_iload1 dX5_copy_55 ?_
    refine jv_ialdN dX5_copy_56 (mk_shelf h.g) (by omega) (by decide) (nr_tag h.s hs) ?_
    refine jv_iconst dX5_copy_57 jv_c_iconst_1 ?_
    refine jv_icmp_neN dX5_copy_58 (tgt := 93) (by decide) (by omega) (by omega) (fun h58 => ?_) (fun h58 => ?_)
    · refine jv_aload0 dX5_copy_93 ?_
      refine jv_getR dX5_copy_94 flX5_7 rfl (mk h.g) (mr_shelf h.g) ?_
      refine jv_iload1 dX5_copy_97 ?_
      refine jv_ialdN dX5_copy_98 (mk_shelf h.g) (by omega) (by decide) (nr_tag h.s hs) ?_
      refine jv_if_eqN dX5_copy_99 (tgt := 111) (by decide) (by omega) (fun h99 => ?_) (fun h99 => ?_)
      · refine jv_aload0 dX5_copy_111 ?_
        refine jv_bipush dX5_copy_112 jv_c_bipush_m4 ?_
        refine jv_v11 dX5_copy_114 okX5_refuse inX5_refuse seX5_refuse mlX5_104 (ci := 5) (T := TX5) (N := 35) rfl (mk h.g) hC (by decide) (Nat.le_of_ble_eq_true rfl) ?_
        exact jv_iret dX5_copy_117 rfl rfl rfl rfl rfl
      · refine jv_aload0 dX5_copy_102 ?_
        refine jv_getR dX5_copy_103 flX5_7 rfl (mk h.g) (mr_shelf h.g) ?_
        refine jv_iload2 dX5_copy_106 ?_
        refine jv_ialdN dX5_copy_107 (mk_shelf h.g) (by omega) (by decide) (nr_tag h.s ht) ?_
        refine jv_if_neN dX5_copy_108 (tgt := 118) (by decide) (by omega) (fun h108 => by omega) (fun h108 => ?_)
        refine jv_aload0 dX5_copy_111 ?_
        refine jv_bipush dX5_copy_112 jv_c_bipush_m4 ?_
        refine jv_v11 dX5_copy_114 okX5_refuse inX5_refuse seX5_refuse mlX5_104 (ci := 5) (T := TX5) (N := 35) rfl (mk h.g) hC (by decide) (Nat.le_of_ble_eq_true rfl) ?_
        exact jv_iret dX5_copy_117 rfl rfl rfl rfl rfl
    · refine jv_aload0 dX5_copy_61 ?_
      refine jv_getR dX5_copy_62 flX5_7 rfl (mk h.g) (mr_shelf h.g) ?_
      refine jv_iload2 dX5_copy_65 ?_
      refine jv_ialdN dX5_copy_66 (mk_shelf h.g) (by omega) (by decide) (nr_tag h.s ht) ?_
      refine jv_iconst dX5_copy_67 jv_c_iconst_1 ?_
      refine jv_icmp_neN dX5_copy_68 (tgt := 93) (by decide) (by omega) (by omega) (fun h68 => ?_) (fun h68 => by omega)
      refine jv_aload0 dX5_copy_93 ?_
      refine jv_getR dX5_copy_94 flX5_7 rfl (mk h.g) (mr_shelf h.g) ?_
      refine jv_iload1 dX5_copy_97 ?_
      refine jv_ialdN dX5_copy_98 (mk_shelf h.g) (by omega) (by decide) (nr_tag h.s hs) ?_
      refine jv_if_eqN dX5_copy_99 (tgt := 111) (by decide) (by omega) (fun h99 => ?_) (fun h99 => ?_)
      · refine jv_aload0 dX5_copy_111 ?_
        refine jv_bipush dX5_copy_112 jv_c_bipush_m4 ?_
        refine jv_v11 dX5_copy_114 okX5_refuse inX5_refuse seX5_refuse mlX5_104 (ci := 5) (T := TX5) (N := 35) rfl (mk h.g) hC (by decide) (Nat.le_of_ble_eq_true rfl) ?_
        exact jv_iret dX5_copy_117 rfl rfl rfl rfl rfl
      · refine jv_aload0 dX5_copy_102 ?_
        refine jv_getR dX5_copy_103 flX5_7 rfl (mk h.g) (mr_shelf h.g) ?_
        refine jv_iload2 dX5_copy_106 ?_
        refine jv_ialdN dX5_copy_107 (mk_shelf h.g) (by omega) (by decide) (nr_tag h.s ht) ?_
        refine jv_if_neN dX5_copy_108 (tgt := 118) (by decide) (by omega) (fun h108 => by omega) (fun h108 => ?_)
        refine jv_aload0 dX5_copy_111 ?_
        refine jv_bipush dX5_copy_112 jv_c_bipush_m4 ?_
        refine jv_v11 dX5_copy_114 okX5_refuse inX5_refuse seX5_refuse mlX5_104 (ci := 5) (T := TX5) (N := 35) rfl (mk h.g) hC (by decide) (Nat.le_of_ble_eq_true rfl) ?_
        exact jv_iret dX5_copy_117 rfl rfl rfl rfl rfl
  · have z1 := (h.z.1 s hs).2.1 a1
    have z2 := (h.z.1 t ht).2.1 a2
    unfold ot_rcc
    rw [e]
    rw [if_neg (by decide)]
    obtain ⟨I2, hC, h2, h3⟩ := om_refuse3 h
    refine ⟨G, I2, J, ?_, h2, h3, ot_gx.rf⟩
    refine jv_enter okX5_copy (L := [.ref 64, .int (nI s), .int (nI t), .int i, .int j, .int n, .null]) rfl (Nat.le_of_ble_eq_true rfl) ?_
    refine jv_iload1 dX5_copy_0 ?_
    refine jv_i2l dX5_copy_1 rfl ?_
    refine jv_lconst dX5_copy_2 (v := lN 0) rfl ?_
    refine jv_ldc2 dX5_copy_3 cnX5_98 ?_
    refine jv_s31 dX5_copy_6 okX5_in stX5_in mlX5_83 (om_inC _ (a := 0) (b := 7) (by decide) (by decide)) (by decide) (Nat.le_of_ble_eq_true rfl) ?_
    refine jv_if_eqB dX5_copy_9 (tgt := 24) (by decide) (fun h9 => absurd (ot_7 hs) h9) (fun h9 => ?_)
    refine jv_iload2 dX5_copy_12 ?_
    refine jv_i2l dX5_copy_13 rfl ?_
    refine jv_lconst dX5_copy_14 (v := lN 0) rfl ?_
    refine jv_ldc2 dX5_copy_15 cnX5_98 ?_
    refine jv_s31 dX5_copy_18 okX5_in stX5_in mlX5_83 (om_inC _ (a := 0) (b := 7) (by decide) (by decide)) (by decide) (Nat.le_of_ble_eq_true rfl) ?_
    refine jv_if_neB dX5_copy_21 (tgt := 31) (by decide) (fun h21 => ?_) (fun h21 => absurd (ot_7 ht) h21)
    refine jv_aload0 dX5_copy_31 ?_
    refine jv_getR dX5_copy_32 flX5_7 rfl (mk h.g) (mr_shelf h.g) ?_
    refine jv_iload1 dX5_copy_35 ?_
    refine jv_ialdN dX5_copy_36 (mk_shelf h.g) (by omega) (by decide) (nr_tag h.s hs) ?_
    refine jv_iconst dX5_copy_37 jv_c_iconst_2 ?_
    refine jv_icmp_eqN dX5_copy_38 (tgt := 86) (by decide) (by omega) (by omega) (fun h38 => by omega) (fun h38 => ?_)
    refine jv_aload0 dX5_copy_41 ?_
    refine jv_getR dX5_copy_42 flX5_7 rfl (mk h.g) (mr_shelf h.g) ?_
    refine jv_iload2 dX5_copy_45 ?_
    refine jv_ialdN dX5_copy_46 (mk_shelf h.g) (by omega) (by decide) (nr_tag h.s ht) ?_
    refine jv_iconst dX5_copy_47 jv_c_iconst_2 ?_
    refine jv_icmp_eqN dX5_copy_48 (tgt := 86) (by decide) (by omega) (by omega) (fun h48 => by omega) (fun h48 => ?_)
    refine jv_aload0 dX5_copy_51 ?_
    refine jv_getR dX5_copy_52 flX5_7 rfl (mk h.g) (mr_shelf h.g) ?_
    refine jv_iload1 dX5_copy_55 ?_
    refine jv_ialdN dX5_copy_56 (mk_shelf h.g) (by omega) (by decide) (nr_tag h.s hs) ?_
    refine jv_iconst dX5_copy_57 jv_c_iconst_1 ?_
    refine jv_icmp_neN dX5_copy_58 (tgt := 93) (by decide) (by omega) (by omega) (fun h58 => by omega) (fun h58 => ?_)
    refine jv_aload0 dX5_copy_61 ?_
    refine jv_getR dX5_copy_62 flX5_7 rfl (mk h.g) (mr_shelf h.g) ?_
    refine jv_iload2 dX5_copy_65 ?_
    refine jv_ialdN dX5_copy_66 (mk_shelf h.g) (by omega) (by decide) (nr_tag h.s ht) ?_
    refine jv_iconst dX5_copy_67 jv_c_iconst_1 ?_
    refine jv_icmp_neN dX5_copy_68 (tgt := 93) (by decide) (by omega) (by omega) (fun h68 => by omega) (fun h68 => ?_)
    refine jv_aload0 dX5_copy_71 ?_
    refine jv_getR dX5_copy_72 flX5_13 rfl (mk h.g) (mr_rowSort h.g) ?_
    refine jv_iload1 dX5_copy_75 ?_
    refine jv_ialdN dX5_copy_76 (mk_rowSort h.g) (by omega) (by decide) (nr_sort h.s hs a1) ?_
    refine jv_aload0 dX5_copy_77 ?_
    refine jv_getR dX5_copy_78 flX5_13 rfl (mk h.g) (mr_rowSort h.g) ?_
    refine jv_iload2 dX5_copy_81 ?_
    refine jv_ialdN dX5_copy_82 (mk_rowSort h.g) (by omega) (by decide) (nr_sort h.s ht a2) ?_
    refine jv_icmp_eqN dX5_copy_83 (tgt := 93) (by decide) (by omega) (by omega) (fun h83 => by omega) (fun h83 => ?_)
    refine jv_aload0 dX5_copy_86 ?_
    refine jv_bipush dX5_copy_87 jv_c_bipush_m3 ?_
    refine jv_v11 dX5_copy_89 okX5_refuse inX5_refuse seX5_refuse mlX5_104 (ci := 5) (T := TX5) (N := 35) rfl (mk h.g) hC (by decide) (Nat.le_of_ble_eq_true rfl) ?_
    exact jv_iret dX5_copy_92 rfl rfl rfl rfl rfl
