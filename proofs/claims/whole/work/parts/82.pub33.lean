/-! ===== yard: the component's statements ===== -/
def ot_nok (t : Nat → Nat) (n e lo hi : Nat) : Prop := ot_tn t n e = 2 ∧ lo ≤ ot_fg t n e ∧ ot_fg t n e < hi
theorem ot_numk_y {t : Nat → Nat} {n e lo hi : Nat} {f : Nat → Nat → Option ot_Y × Nat} (h : ot_nok t n e lo hi) : ot_numk t n e lo hi f = f (ot_fg t n e) (ot_te t n e) := if_pos h
theorem ot_numk_n {t : Nat → Nat} {n e lo hi : Nat} {f : Nat → Nat → Option ot_Y × Nat} (h : ¬ ot_nok t n e lo hi) : ot_numk t n e lo hi f = (none, ot_ts t n e) := if_neg h
theorem ot_fg_s {t : Nat → Nat} {n e : Nat} (h2 : ot_tn t n e = 2) (h : ot_te t n e - ot_ts t n e ≤ 2) : ot_fg t n e = ot_dec t (ot_ts t n e) (ot_te t n e - ot_ts t n e) := by
  unfold ot_fg ot_fm; rw [if_pos h2, if_pos h]
theorem ot_fg_l {t : Nat → Nat} {n e : Nat} (h2 : ot_tn t n e = 2) (h : ¬ ot_te t n e - ot_ts t n e ≤ 2) : ot_fg t n e = 1000 := by
  unfold ot_fg ot_fm; rw [if_pos h2, if_neg h]
def ot_nv (t : Nat → Nat) (n e lo hi : Nat) : Int32 := if ot_tn t n e = 2 ∧ lo ≤ ot_fg t n e ∧ ot_fg t n e < hi then nI (ot_fg t n e) else -1
def ot_hib (hi : Int32) (m : Nat) : Prop := ∀ v : Nat, v < 2 ^ 30 → (nI v ≤ hi ↔ v < m)
theorem ot_hib_c {c : Nat} (hc : c < 2 ^ 30) : ot_hib (nI c) (c + 1) := fun v hv => by rw [nI_leI (by omega) (by omega)]; omega
theorem ot_hib_p {c : Nat} (hc : c < 2 ^ 30) : ot_hib (nI c - nI 1) c := fun v hv => by rw [ot_le_pred _ hc, nI_toInt (by omega)]; omega
def ot_rp (I I2 : jv_I) (r : Option ot_Y × Nat) : Prop := (∀ q, (q < 26 ∨ 37 < q) → q ≠ 44 → I2 q = I q) ∧ I2 44 1 = I 44 1 ∧ (r.1 = none → I2 44 3 = nI r.2) ∧ ∀ Y2, r.1 = some Y2 → ot_YR I2 26 Y2 ∧ I2 44 4 = nI r.2
theorem ot_rp.pre {I A I2 : jv_I} {r : Option ot_Y × Nat} (h : ot_tf I A) (h2 : ot_rp A I2 r) : ot_rp I I2 r := ⟨fun q a b => (h2.1 q a b).trans (h.1 q b), h2.2.1.trans h.2, h2.2.2⟩
theorem ot_rp.no {I I2 : jv_I} {p : Nat} (h : ot_tf I I2) (h3 : I2 44 3 = nI p) : ot_rp I I2 (none, p) := ⟨fun q _ b => h.1 q b, h.2, fun _ => h3, fun Y2 z => by cases z⟩
theorem ot_rp.yes {I A I2 : jv_I} {Y2 : ot_Y} {e : Nat} (h : ot_tf I A) (h4 : A 44 4 = nI e) (hf : ot_fr A I2 26 37) (hR : ot_YR I2 26 Y2) : ot_rp I I2 (some Y2, e) := ⟨fun q a b => (hf q (by omega)).trans (h.1 q b), by rw [hf 44 (by omega)]; exact h.2, (fun z => by cases z), fun Y3 z => by cases z; exact ⟨hR, by rw [hf 44 (by omega)]; exact h4⟩⟩
theorem ot_tf.yr {I A : jv_I} {Y : ot_Y} (h : ot_tf I A) (hR : ot_YR I 26 Y) : ot_YR A 26 Y := ot_YR_fr (lo := 44) (hi := 44) hR (fun q hq => h.1 q (by omega)) (by omega)
set_option maxRecDepth 20000 in
theorem oc_nextNumber {G : jv_Gr} {I : jv_I} {J : jv_J} (hg : ot_CG G) {n : Nat} {t : Nat → Nat} (hP : ot_tp I n t) {e : Nat} (he : e ≤ n) (h4 : I 44 4 = nI e) {lo h1 : Nat} {hi : Int32} (hlo : lo < 2 ^ 30) (hh : h1 ≤ 1000) (hH : ot_hib hi h1) : ∃ I2, jv_C 3 mX2_nextNumber [.ref 44, .int (nI lo), .int hi] G I J (some (.int (ot_nv t n e lo h1))) G I2 J ∧ ot_tf I I2 ∧ ot_T3 I2 (ot_tn t n e) (ot_ts t n e) (ot_te t n e) := by
  have hn := hP.2.1
  have h255 := hP.2.2
  have b1 := ot_tn_4 t n e
  have b2 := ot_te_le t he
  have b3 := ot_te_ge t n e
  have b4 := ot_ts_ge t n e
  obtain ⟨A, c1, hF, h3⟩ := oc_nextToken hg hP he h4 (J := J)
  have hA := hF.tp hP
  refine ⟨A, ?_, hF, h3⟩
  refine jv_enter okX2_nextNumber (L := [.ref 44, .int (nI lo), .int hi, .null, .null]) rfl (Nat.le_of_ble_eq_true rfl) ?_
  by_cases hk : ot_tn t n e = 2
  · by_cases hl : ot_te t n e - ot_ts t n e ≤ 2
    · have ef := ot_fg_s hk hl
      have dl : ∀ m, m ≤ ot_te t n e - ot_ts t n e → ot_dec t (ot_ts t n e) m ≤ 40000 := fun m hm => ot_dec_le m (by omega) (fun j hj => h255 _ (by omega))
      have loop : ∀ (m0 m : Nat), ot_te t n e - ot_ts t n e + 1 ≤ m + m0 → m ≤ ot_te t n e - ot_ts t n e → jv_V 3 mX2_nextNumber 35 [.ref 44, .int (nI lo), .int hi, .int (nI (ot_dec t (ot_ts t n e) m)), .int (nI (ot_ts t n e + m))] [] G A J (some (.int (ot_nv t n e lo h1))) G A J := by
        intro m0
        induction m0 with
        | zero => intro m q1 q2; omega
        | succ m0 ih =>
          intro m q1 q2
          have dm := dl m q2
          by_cases hm : m < ot_te t n e - ot_ts t n e
          · have hd := ot_dig_of t hk (show ot_ts t n e ≤ ot_ts t n e + m by omega) (by omega)
            refine jv_iload4 dX2_nextNumber_35 ?_
            refine jv_aload0 dX2_nextNumber_37 ?_
            refine jv_getI dX2_nextNumber_38 flX2_25 rfl (tk hg) h3.2.2 ?_
            refine jv_icmp_geN dX2_nextNumber_41 (tgt := 66) (by decide) (by omega) (by omega) (fun hc41 => by omega) (fun hc41 => ?_)
            refine jv_bipush dX2_nextNumber_44 jv_c_bipush_10 ?_
            refine jv_iload3 dX2_nextNumber_46 ?_
            refine jv_imulN dX2_nextNumber_47 ?_
            refine jv_aload0 dX2_nextNumber_48 ?_
            refine jv_getR dX2_nextNumber_49 flX2_9 rfl (tk hg) (tr_bytes hg) ?_
            refine jv_iload4 dX2_nextNumber_52 ?_
            refine jv_ialdN dX2_nextNumber_54 (tk_bytes hg) (by omega) (by decide) (hA.1.2 _ (by omega)) ?_
            refine jv_iaddN dX2_nextNumber_55 ?_
            refine jv_bipush dX2_nextNumber_56 jv_c_bipush_48 ?_
            refine jv_isubN dX2_nextNumber_58 (by omega) ?_
            refine jv_istore3 dX2_nextNumber_59 rfl ?_
            refine jv_iinc4N dX2_nextNumber_60 rfl ?_
            refine jv_goto dX2_nextNumber_63 (tgt := 35) (by decide) ?_
            exact ih (m + 1) (by omega) (by omega)
          · have em : m = ot_te t n e - ot_ts t n e := by omega
            rw [em, ← ef]
            rw [em, ← ef] at dm
            have hiff : (nI lo ≤ nI (ot_fg t n e) ∧ nI (ot_fg t n e) ≤ hi) ↔ (lo ≤ ot_fg t n e ∧ ot_fg t n e < h1) := by rw [hH _ (by omega), nI_leI (by omega) (by omega)]
            by_cases hy : ot_nok t n e lo h1
            · have hw := hiff.mpr hy.2
              refine jv_iload4 dX2_nextNumber_35 ?_
              refine jv_aload0 dX2_nextNumber_37 ?_
              refine jv_getI dX2_nextNumber_38 flX2_25 rfl (tk hg) h3.2.2 ?_
              refine jv_icmp_geN dX2_nextNumber_41 (tgt := 66) (by decide) (by omega) (by omega) (fun hc41 => ?_) (fun hc41 => by omega)
              refine jv_iload3 dX2_nextNumber_66 ?_
              refine jv_iload1 dX2_nextNumber_67 ?_
              refine jv_iload2 dX2_nextNumber_68 ?_
              refine jv_sn31 dX2_nextNumber_69 okX4_within stX4_within nlX2_49 (ot_within _ (nI lo) hi) (by decide) (Nat.le_of_ble_eq_true rfl) ?_
              refine jv_if_eqB dX2_nextNumber_72 (tgt := 79) (by decide) (fun h72 => absurd hw h72) (fun h72 => ?_)
              refine jv_iload3 dX2_nextNumber_75 ?_
              refine jv_goto dX2_nextNumber_76 (tgt := 80) (by decide) ?_
              exact jv_iret dX2_nextNumber_80 rfl rfl (by unfold ot_nv; exact (if_pos hy).symm) rfl rfl
            · have hw : ¬ (nI lo ≤ nI (ot_fg t n e) ∧ nI (ot_fg t n e) ≤ hi) := fun z => hy ⟨hk, hiff.mp z⟩
              refine jv_iload4 dX2_nextNumber_35 ?_
              refine jv_aload0 dX2_nextNumber_37 ?_
              refine jv_getI dX2_nextNumber_38 flX2_25 rfl (tk hg) h3.2.2 ?_
              refine jv_icmp_geN dX2_nextNumber_41 (tgt := 66) (by decide) (by omega) (by omega) (fun hc41 => ?_) (fun hc41 => by omega)
              refine jv_iload3 dX2_nextNumber_66 ?_
              refine jv_iload1 dX2_nextNumber_67 ?_
              refine jv_iload2 dX2_nextNumber_68 ?_
              refine jv_sn31 dX2_nextNumber_69 okX4_within stX4_within nlX2_49 (ot_within _ (nI lo) hi) (by decide) (Nat.le_of_ble_eq_true rfl) ?_
              refine jv_if_eqB dX2_nextNumber_72 (tgt := 79) (by decide) (fun h72 => ?_) (fun h72 => absurd h72 hw)
              refine jv_iconst dX2_nextNumber_79 jv_c_iconst_m1 ?_
              exact jv_iret dX2_nextNumber_80 rfl rfl (by unfold ot_nv; exact (if_neg hy).symm) rfl rfl
      refine jv_aload0 dX2_nextNumber_0 ?_
      refine jv_v00 dX2_nextNumber_1 okX2_nextToken inX2_nextToken seX2_nextToken mlX2_32 (ci := 2) (T := TX2) (N := 5) rfl (tk hg) c1 (by decide) (Nat.le_of_ble_eq_true rfl) ?_
      refine jv_aload0 dX2_nextNumber_4 ?_
      refine jv_getI dX2_nextNumber_5 flX2_19 rfl (tk hg) h3.1 ?_
      refine jv_iconst dX2_nextNumber_8 jv_c_iconst_2 ?_
      refine jv_icmp_neN dX2_nextNumber_9 (tgt := 25) (by decide) (by omega) (by omega) (fun hc9 => by omega) (fun hc9 => ?_)
      refine jv_aload0 dX2_nextNumber_12 ?_
      refine jv_getI dX2_nextNumber_13 flX2_25 rfl (tk hg) h3.2.2 ?_
      refine jv_aload0 dX2_nextNumber_16 ?_
      refine jv_getI dX2_nextNumber_17 flX2_22 rfl (tk hg) h3.2.1 ?_
      refine jv_isubN dX2_nextNumber_20 (by omega) ?_
      refine jv_iconst dX2_nextNumber_21 jv_c_iconst_2 ?_
      refine jv_icmp_leN dX2_nextNumber_22 (tgt := 27) (by decide) (by omega) (by omega) (fun hc22 => ?_) (fun hc22 => by omega)
      refine jv_iconst dX2_nextNumber_27 jv_c_iconst_0 ?_
      refine jv_istore3 dX2_nextNumber_28 rfl ?_
      refine jv_aload0 dX2_nextNumber_29 ?_
      refine jv_getI dX2_nextNumber_30 flX2_22 rfl (tk hg) h3.2.1 ?_
      refine jv_istore4 dX2_nextNumber_33 rfl ?_
      exact loop (ot_te t n e - ot_ts t n e + 1) 0 (by omega) (by omega)
    · skip
      refine jv_aload0 dX2_nextNumber_0 ?_
      refine jv_v00 dX2_nextNumber_1 okX2_nextToken inX2_nextToken seX2_nextToken mlX2_32 (ci := 2) (T := TX2) (N := 5) rfl (tk hg) c1 (by decide) (Nat.le_of_ble_eq_true rfl) ?_
      refine jv_aload0 dX2_nextNumber_4 ?_
      refine jv_getI dX2_nextNumber_5 flX2_19 rfl (tk hg) h3.1 ?_
      refine jv_iconst dX2_nextNumber_8 jv_c_iconst_2 ?_
      refine jv_icmp_neN dX2_nextNumber_9 (tgt := 25) (by decide) (by omega) (by omega) (fun hc9 => by omega) (fun hc9 => ?_)
      refine jv_aload0 dX2_nextNumber_12 ?_
      refine jv_getI dX2_nextNumber_13 flX2_25 rfl (tk hg) h3.2.2 ?_
      refine jv_aload0 dX2_nextNumber_16 ?_
      refine jv_getI dX2_nextNumber_17 flX2_22 rfl (tk hg) h3.2.1 ?_
      refine jv_isubN dX2_nextNumber_20 (by omega) ?_
      refine jv_iconst dX2_nextNumber_21 jv_c_iconst_2 ?_
      refine jv_icmp_leN dX2_nextNumber_22 (tgt := 27) (by decide) (by omega) (by omega) (fun hc22 => by omega) (fun hc22 => ?_)
      refine jv_iconst dX2_nextNumber_25 jv_c_iconst_m1 ?_
      exact jv_iret dX2_nextNumber_26 rfl rfl (by unfold ot_nv; rw [ot_fg_l hk hl, if_neg (by omega)]) rfl rfl
  · skip
    refine jv_aload0 dX2_nextNumber_0 ?_
    refine jv_v00 dX2_nextNumber_1 okX2_nextToken inX2_nextToken seX2_nextToken mlX2_32 (ci := 2) (T := TX2) (N := 5) rfl (tk hg) c1 (by decide) (Nat.le_of_ble_eq_true rfl) ?_
    refine jv_aload0 dX2_nextNumber_4 ?_
    refine jv_getI dX2_nextNumber_5 flX2_19 rfl (tk hg) h3.1 ?_
    refine jv_iconst dX2_nextNumber_8 jv_c_iconst_2 ?_
    refine jv_icmp_neN dX2_nextNumber_9 (tgt := 25) (by decide) (by omega) (by omega) (fun hc9 => ?_) (fun hc9 => by omega)
    refine jv_iconst dX2_nextNumber_25 jv_c_iconst_m1 ?_
    exact jv_iret dX2_nextNumber_26 rfl rfl (by unfold ot_nv; rw [if_neg (fun z => hk z.1)]) rfl rfl
set_option maxRecDepth 20000 in
theorem oc_readChild {G : jv_Gr} {I : jv_I} {J : jv_J} (hg : ot_CG G) {n : Nat} {t : Nat → Nat} (hP : ot_tp I n t) {Y : ot_Y} (hY : ot_YR I 26 Y) (hW : ot_YW Y) {e : Nat} (he : e ≤ n) (h4 : I 44 4 = nI e) (h14 : Y 10 0 < 14) : ∃ I2, jv_C 4 mX2_readChild [.ref 44, .ref 26] G I J (some (.int (jv_b ((ot_stC Y t n e).1.isSome = true)))) G I2 J ∧ ot_rp I I2 (ot_stC Y t n e) := by
  have bn := yw_n hW
  have bc := yw_c hW
  have bw := yw_w hW
  obtain ⟨A1, c1, f1, t1⟩ := oc_nextNumber (J := J) hg hP he h4 (lo := 1) (h1 := 100) (by decide) (by omega) (ot_hib_c (c := 99) (by decide))
  have F1 : ot_tf I A1 := f1
  have he1 := ot_te_le t he
  have hY1 := F1.yr hY
  have c10 := c1
  by_cases k1 : ot_nok t n e 1 100
  · have kb1 := k1.2
    rw [show ot_nv t n e 1 100 = nI (ot_fg t n e) from if_pos k1] at c1
    obtain ⟨A2, c2, f2, t2⟩ := oc_nextNumber (J := J) hg (F1.tp hP) he1 t1.2.2 (lo := 0) (h1 := 10) (by decide) (by omega) (ot_hib_c (c := 9) (by decide))
    have F2 : ot_tf I A2 := F1.tr f2
    have he2 := ot_te_le t he1
    have hY2 := F2.yr hY
    have c20 := c2
    by_cases k2 : ot_nok t n (ot_te t n e) 0 10
    · have kb2 := k2.2
      rw [show ot_nv t n (ot_te t n e) 0 10 = nI (ot_fg t n (ot_te t n e)) from if_pos k2] at c2
      obtain ⟨Az, cz, hRz, hFz⟩ := ot_addChildM (J := J) (cg_draft hg) hY2 hW (s := (ot_fg t n e)) (t := (ot_fg t n (ot_te t n e))) h14
      have hr : ot_stC Y t n e = (some (ot_addChild Y (ot_fg t n e) (ot_fg t n (ot_te t n e))), (ot_te t n (ot_te t n e))) := by unfold ot_stC; rw [ot_numk_y k1, ot_numk_y k2]
      rw [hr]
      refine ⟨Az, ?_, ot_rp.yes F2 t2.2.2 hFz hRz⟩
      refine jv_enter okX2_readChild (L := [.ref 44, .ref 26, .null, .null]) rfl (Nat.le_of_ble_eq_true rfl) ?_
      refine jv_aload0 dX2_readChild_0 ?_
      refine jv_iconst dX2_readChild_1 jv_c_iconst_1 ?_
      refine jv_bipush dX2_readChild_2 jv_c_bipush_99 ?_
      refine jv_v21 dX2_readChild_4 okX2_nextNumber inX2_nextNumber seX2_nextNumber mlX2_96 (ci := 2) (T := TX2) (N := 5) rfl (tk hg) c1 (by decide) (Nat.le_of_ble_eq_true rfl) ?_
      refine jv_istore2 dX2_readChild_7 rfl ?_
      refine jv_iload2 dX2_readChild_8 ?_
      refine jv_iconst dX2_readChild_9 jv_c_iconst_m1 ?_
      refine jv_icmp_ne dX2_readChild_10 (tgt := 15) (by decide) (fun hz => ?_) (fun hz => absurd hz (ot_nI_n1 (by omega)))
      refine jv_aload0 dX2_readChild_15 ?_
      refine jv_iconst dX2_readChild_16 jv_c_iconst_0 ?_
      refine jv_bipush dX2_readChild_17 jv_c_bipush_9 ?_
      refine jv_v21 dX2_readChild_19 okX2_nextNumber inX2_nextNumber seX2_nextNumber mlX2_96 (ci := 2) (T := TX2) (N := 5) rfl (tk hg) c2 (by decide) (Nat.le_of_ble_eq_true rfl) ?_
      refine jv_istore3 dX2_readChild_22 rfl ?_
      refine jv_iload3 dX2_readChild_23 ?_
      refine jv_iconst dX2_readChild_24 jv_c_iconst_m1 ?_
      refine jv_icmp_ne dX2_readChild_25 (tgt := 30) (by decide) (fun hz => ?_) (fun hz => absurd hz (ot_nI_n1 (by omega)))
      refine jv_aload1 dX2_readChild_30 ?_
      refine jv_iload2 dX2_readChild_31 ?_
      refine jv_iload3 dX2_readChild_32 ?_
      refine jv_v21 dX2_readChild_33 okX3_addChild inX3_addChild seX3_addChild mlX2_100 (ci := 3) (T := TX3) (N := 15) rfl (yk (cg_draft hg)) cz (by decide) (Nat.le_of_ble_eq_true rfl) ?_
      refine jv_pop dX2_readChild_36 rfl ?_
      refine jv_iconst dX2_readChild_37 jv_c_iconst_1 ?_
      exact jv_iret dX2_readChild_38 rfl (by decide) (ot_b1 rfl) rfl rfl
    · have hr : ot_stC Y t n e = (none, ot_ts t n (ot_te t n e)) := by unfold ot_stC; rw [ot_numk_y k1, ot_numk_n k2]
      rw [hr]
      rw [show ot_nv t n (ot_te t n e) 0 10 = -1 from if_neg k2] at c2
      refine ⟨A2, ?_, ot_rp.no F2 t2.2.1⟩
      refine jv_enter okX2_readChild (L := [.ref 44, .ref 26, .null, .null]) rfl (Nat.le_of_ble_eq_true rfl) ?_
      refine jv_aload0 dX2_readChild_0 ?_
      refine jv_iconst dX2_readChild_1 jv_c_iconst_1 ?_
      refine jv_bipush dX2_readChild_2 jv_c_bipush_99 ?_
      refine jv_v21 dX2_readChild_4 okX2_nextNumber inX2_nextNumber seX2_nextNumber mlX2_96 (ci := 2) (T := TX2) (N := 5) rfl (tk hg) c1 (by decide) (Nat.le_of_ble_eq_true rfl) ?_
      refine jv_istore2 dX2_readChild_7 rfl ?_
      refine jv_iload2 dX2_readChild_8 ?_
      refine jv_iconst dX2_readChild_9 jv_c_iconst_m1 ?_
      refine jv_icmp_ne dX2_readChild_10 (tgt := 15) (by decide) (fun hz => ?_) (fun hz => absurd hz (ot_nI_n1 (by omega)))
      refine jv_aload0 dX2_readChild_15 ?_
      refine jv_iconst dX2_readChild_16 jv_c_iconst_0 ?_
      refine jv_bipush dX2_readChild_17 jv_c_bipush_9 ?_
      refine jv_v21 dX2_readChild_19 okX2_nextNumber inX2_nextNumber seX2_nextNumber mlX2_96 (ci := 2) (T := TX2) (N := 5) rfl (tk hg) c2 (by decide) (Nat.le_of_ble_eq_true rfl) ?_
      refine jv_istore3 dX2_readChild_22 rfl ?_
      refine jv_iload3 dX2_readChild_23 ?_
      refine jv_iconst dX2_readChild_24 jv_c_iconst_m1 ?_
      refine jv_icmp_ne dX2_readChild_25 (tgt := 30) (by decide) (fun hz => absurd rfl hz) (fun hz => ?_)
      refine jv_iconst dX2_readChild_28 jv_c_iconst_0 ?_
      exact jv_iret dX2_readChild_29 rfl (by decide) (ot_b0 (fun z => Bool.noConfusion z)) rfl rfl
  · have hr : ot_stC Y t n e = (none, ot_ts t n e) := by unfold ot_stC; rw [ot_numk_n k1]
    rw [hr]
    rw [show ot_nv t n e 1 100 = -1 from if_neg k1] at c1
    refine ⟨A1, ?_, ot_rp.no F1 t1.2.1⟩
    refine jv_enter okX2_readChild (L := [.ref 44, .ref 26, .null, .null]) rfl (Nat.le_of_ble_eq_true rfl) ?_
    refine jv_aload0 dX2_readChild_0 ?_
    refine jv_iconst dX2_readChild_1 jv_c_iconst_1 ?_
    refine jv_bipush dX2_readChild_2 jv_c_bipush_99 ?_
    refine jv_v21 dX2_readChild_4 okX2_nextNumber inX2_nextNumber seX2_nextNumber mlX2_96 (ci := 2) (T := TX2) (N := 5) rfl (tk hg) c1 (by decide) (Nat.le_of_ble_eq_true rfl) ?_
    refine jv_istore2 dX2_readChild_7 rfl ?_
    refine jv_iload2 dX2_readChild_8 ?_
    refine jv_iconst dX2_readChild_9 jv_c_iconst_m1 ?_
    refine jv_icmp_ne dX2_readChild_10 (tgt := 15) (by decide) (fun hz => absurd rfl hz) (fun hz => ?_)
    refine jv_iconst dX2_readChild_13 jv_c_iconst_0 ?_
    exact jv_iret dX2_readChild_14 rfl (by decide) (ot_b0 (fun z => Bool.noConfusion z)) rfl rfl
set_option maxRecDepth 20000 in
theorem oc_readCount {G : jv_Gr} {I : jv_I} {J : jv_J} (hg : ot_CG G) {n : Nat} {t : Nat → Nat} (hP : ot_tp I n t) {Y : ot_Y} (hY : ot_YR I 26 Y) (hW : ot_YW Y) {e : Nat} (he : e ≤ n) (h4 : I 44 4 = nI e) (h6 : Y 10 1 < 6) : ∃ I2, jv_C 4 mX2_readCount [.ref 44, .ref 26] G I J (some (.int (jv_b ((ot_stK Y t n e).1.isSome = true)))) G I2 J ∧ ot_rp I I2 (ot_stK Y t n e) := by
  have bn := yw_n hW
  have bc := yw_c hW
  have bw := yw_w hW
  obtain ⟨A1, c1, f1, t1⟩ := oc_nextNumber (J := J) hg hP he h4 (lo := 0) (h1 := 6) (by decide) (by omega) (ot_hib_c (c := 5) (by decide))
  have F1 : ot_tf I A1 := f1
  have he1 := ot_te_le t he
  have hY1 := F1.yr hY
  have c10 := c1
  by_cases k1 : ot_nok t n e 0 6
  · have kb1 := k1.2
    rw [show ot_nv t n e 0 6 = nI (ot_fg t n e) from if_pos k1] at c1
    obtain ⟨A2, c2, f2, t2⟩ := oc_nextNumber (J := J) hg (F1.tp hP) he1 t1.2.2 (lo := 2) (h1 := 6) (by decide) (by omega) (ot_hib_c (c := 5) (by decide))
    have F2 : ot_tf I A2 := F1.tr f2
    have he2 := ot_te_le t he1
    have hY2 := F2.yr hY
    have c20 := c2
    by_cases k2 : ot_nok t n (ot_te t n e) 2 6
    · have kb2 := k2.2
      rw [show ot_nv t n (ot_te t n e) 2 6 = nI (ot_fg t n (ot_te t n e)) from if_pos k2] at c2
      obtain ⟨A3, c3, f3, t3⟩ := oc_nextNumber (J := J) hg (F2.tp hP) he2 t2.2.2 (lo := 0) (h1 := 14) (by decide) (by omega) (ot_hib_c (c := 13) (by decide))
      have F3 : ot_tf I A3 := F2.tr f3
      have he3 := ot_te_le t he2
      have hY3 := F3.yr hY
      have c30 := c3
      by_cases k3 : ot_nok t n (ot_te t n (ot_te t n e)) 0 14
      · have kb3 := k3.2
        rw [show ot_nv t n (ot_te t n (ot_te t n e)) 0 14 = nI (ot_fg t n (ot_te t n (ot_te t n e))) from if_pos k3] at c3
        obtain ⟨Az, cz, hRz, hFz⟩ := ot_addCountM (J := J) (cg_draft hg) hY3 hW (k := (ot_fg t n e)) (nn := (ot_fg t n (ot_te t n e))) (a := (ot_fg t n (ot_te t n (ot_te t n e)))) h6
        have hr : ot_stK Y t n e = (some (ot_addCount Y (ot_fg t n e) (ot_fg t n (ot_te t n e)) (ot_fg t n (ot_te t n (ot_te t n e)))), (ot_te t n (ot_te t n (ot_te t n e)))) := by unfold ot_stK; rw [ot_numk_y k1, ot_numk_y k2, ot_numk_y k3]
        rw [hr]
        refine ⟨Az, ?_, ot_rp.yes F3 t3.2.2 hFz hRz⟩
        refine jv_enter okX2_readCount (L := [.ref 44, .ref 26, .null, .null, .null]) rfl (Nat.le_of_ble_eq_true rfl) ?_
        refine jv_aload0 dX2_readCount_0 ?_
        refine jv_iconst dX2_readCount_1 jv_c_iconst_0 ?_
        refine jv_iconst dX2_readCount_2 jv_c_iconst_5 ?_
        refine jv_v21 dX2_readCount_3 okX2_nextNumber inX2_nextNumber seX2_nextNumber mlX2_96 (ci := 2) (T := TX2) (N := 5) rfl (tk hg) c1 (by decide) (Nat.le_of_ble_eq_true rfl) ?_
        refine jv_istore2 dX2_readCount_6 rfl ?_
        refine jv_iload2 dX2_readCount_7 ?_
        refine jv_iconst dX2_readCount_8 jv_c_iconst_m1 ?_
        refine jv_icmp_ne dX2_readCount_9 (tgt := 14) (by decide) (fun hz => ?_) (fun hz => absurd hz (ot_nI_n1 (by omega)))
        refine jv_aload0 dX2_readCount_14 ?_
        refine jv_iconst dX2_readCount_15 jv_c_iconst_2 ?_
        refine jv_iconst dX2_readCount_16 jv_c_iconst_5 ?_
        refine jv_v21 dX2_readCount_17 okX2_nextNumber inX2_nextNumber seX2_nextNumber mlX2_96 (ci := 2) (T := TX2) (N := 5) rfl (tk hg) c2 (by decide) (Nat.le_of_ble_eq_true rfl) ?_
        refine jv_istore3 dX2_readCount_20 rfl ?_
        refine jv_iload3 dX2_readCount_21 ?_
        refine jv_iconst dX2_readCount_22 jv_c_iconst_m1 ?_
        refine jv_icmp_ne dX2_readCount_23 (tgt := 28) (by decide) (fun hz => ?_) (fun hz => absurd hz (ot_nI_n1 (by omega)))
        refine jv_aload0 dX2_readCount_28 ?_
        refine jv_iconst dX2_readCount_29 jv_c_iconst_0 ?_
        refine jv_bipush dX2_readCount_30 jv_c_bipush_13 ?_
        refine jv_v21 dX2_readCount_32 okX2_nextNumber inX2_nextNumber seX2_nextNumber mlX2_96 (ci := 2) (T := TX2) (N := 5) rfl (tk hg) c3 (by decide) (Nat.le_of_ble_eq_true rfl) ?_
        refine jv_istore4 dX2_readCount_35 rfl ?_
        refine jv_iload4 dX2_readCount_37 ?_
        refine jv_iconst dX2_readCount_39 jv_c_iconst_m1 ?_
        refine jv_icmp_ne dX2_readCount_40 (tgt := 45) (by decide) (fun hz => ?_) (fun hz => absurd hz (ot_nI_n1 (by omega)))
        refine jv_aload1 dX2_readCount_45 ?_
        refine jv_iload2 dX2_readCount_46 ?_
        refine jv_iload3 dX2_readCount_47 ?_
        refine jv_iload4 dX2_readCount_48 ?_
        refine jv_v31 dX2_readCount_50 okX3_addCount inX3_addCount seX3_addCount mlX2_103 (ci := 3) (T := TX3) (N := 15) rfl (yk (cg_draft hg)) cz (by decide) (Nat.le_of_ble_eq_true rfl) ?_
        refine jv_pop dX2_readCount_53 rfl ?_
        refine jv_iconst dX2_readCount_54 jv_c_iconst_1 ?_
        exact jv_iret dX2_readCount_55 rfl (by decide) (ot_b1 rfl) rfl rfl
      · have hr : ot_stK Y t n e = (none, ot_ts t n (ot_te t n (ot_te t n e))) := by unfold ot_stK; rw [ot_numk_y k1, ot_numk_y k2, ot_numk_n k3]
        rw [hr]
        rw [show ot_nv t n (ot_te t n (ot_te t n e)) 0 14 = -1 from if_neg k3] at c3
        refine ⟨A3, ?_, ot_rp.no F3 t3.2.1⟩
        refine jv_enter okX2_readCount (L := [.ref 44, .ref 26, .null, .null, .null]) rfl (Nat.le_of_ble_eq_true rfl) ?_
        refine jv_aload0 dX2_readCount_0 ?_
        refine jv_iconst dX2_readCount_1 jv_c_iconst_0 ?_
        refine jv_iconst dX2_readCount_2 jv_c_iconst_5 ?_
        refine jv_v21 dX2_readCount_3 okX2_nextNumber inX2_nextNumber seX2_nextNumber mlX2_96 (ci := 2) (T := TX2) (N := 5) rfl (tk hg) c1 (by decide) (Nat.le_of_ble_eq_true rfl) ?_
        refine jv_istore2 dX2_readCount_6 rfl ?_
        refine jv_iload2 dX2_readCount_7 ?_
        refine jv_iconst dX2_readCount_8 jv_c_iconst_m1 ?_
        refine jv_icmp_ne dX2_readCount_9 (tgt := 14) (by decide) (fun hz => ?_) (fun hz => absurd hz (ot_nI_n1 (by omega)))
        refine jv_aload0 dX2_readCount_14 ?_
        refine jv_iconst dX2_readCount_15 jv_c_iconst_2 ?_
        refine jv_iconst dX2_readCount_16 jv_c_iconst_5 ?_
        refine jv_v21 dX2_readCount_17 okX2_nextNumber inX2_nextNumber seX2_nextNumber mlX2_96 (ci := 2) (T := TX2) (N := 5) rfl (tk hg) c2 (by decide) (Nat.le_of_ble_eq_true rfl) ?_
        refine jv_istore3 dX2_readCount_20 rfl ?_
        refine jv_iload3 dX2_readCount_21 ?_
        refine jv_iconst dX2_readCount_22 jv_c_iconst_m1 ?_
        refine jv_icmp_ne dX2_readCount_23 (tgt := 28) (by decide) (fun hz => ?_) (fun hz => absurd hz (ot_nI_n1 (by omega)))
        refine jv_aload0 dX2_readCount_28 ?_
        refine jv_iconst dX2_readCount_29 jv_c_iconst_0 ?_
        refine jv_bipush dX2_readCount_30 jv_c_bipush_13 ?_
        refine jv_v21 dX2_readCount_32 okX2_nextNumber inX2_nextNumber seX2_nextNumber mlX2_96 (ci := 2) (T := TX2) (N := 5) rfl (tk hg) c3 (by decide) (Nat.le_of_ble_eq_true rfl) ?_
        refine jv_istore4 dX2_readCount_35 rfl ?_
        refine jv_iload4 dX2_readCount_37 ?_
        refine jv_iconst dX2_readCount_39 jv_c_iconst_m1 ?_
        refine jv_icmp_ne dX2_readCount_40 (tgt := 45) (by decide) (fun hz => absurd rfl hz) (fun hz => ?_)
        refine jv_iconst dX2_readCount_43 jv_c_iconst_0 ?_
        exact jv_iret dX2_readCount_44 rfl (by decide) (ot_b0 (fun z => Bool.noConfusion z)) rfl rfl
    · have hr : ot_stK Y t n e = (none, ot_ts t n (ot_te t n e)) := by unfold ot_stK; rw [ot_numk_y k1, ot_numk_n k2]
      rw [hr]
      rw [show ot_nv t n (ot_te t n e) 2 6 = -1 from if_neg k2] at c2
      refine ⟨A2, ?_, ot_rp.no F2 t2.2.1⟩
      refine jv_enter okX2_readCount (L := [.ref 44, .ref 26, .null, .null, .null]) rfl (Nat.le_of_ble_eq_true rfl) ?_
      refine jv_aload0 dX2_readCount_0 ?_
      refine jv_iconst dX2_readCount_1 jv_c_iconst_0 ?_
      refine jv_iconst dX2_readCount_2 jv_c_iconst_5 ?_
      refine jv_v21 dX2_readCount_3 okX2_nextNumber inX2_nextNumber seX2_nextNumber mlX2_96 (ci := 2) (T := TX2) (N := 5) rfl (tk hg) c1 (by decide) (Nat.le_of_ble_eq_true rfl) ?_
      refine jv_istore2 dX2_readCount_6 rfl ?_
      refine jv_iload2 dX2_readCount_7 ?_
      refine jv_iconst dX2_readCount_8 jv_c_iconst_m1 ?_
      refine jv_icmp_ne dX2_readCount_9 (tgt := 14) (by decide) (fun hz => ?_) (fun hz => absurd hz (ot_nI_n1 (by omega)))
      refine jv_aload0 dX2_readCount_14 ?_
      refine jv_iconst dX2_readCount_15 jv_c_iconst_2 ?_
      refine jv_iconst dX2_readCount_16 jv_c_iconst_5 ?_
      refine jv_v21 dX2_readCount_17 okX2_nextNumber inX2_nextNumber seX2_nextNumber mlX2_96 (ci := 2) (T := TX2) (N := 5) rfl (tk hg) c2 (by decide) (Nat.le_of_ble_eq_true rfl) ?_
      refine jv_istore3 dX2_readCount_20 rfl ?_
      refine jv_iload3 dX2_readCount_21 ?_
      refine jv_iconst dX2_readCount_22 jv_c_iconst_m1 ?_
      refine jv_icmp_ne dX2_readCount_23 (tgt := 28) (by decide) (fun hz => absurd rfl hz) (fun hz => ?_)
      refine jv_iconst dX2_readCount_26 jv_c_iconst_0 ?_
      exact jv_iret dX2_readCount_27 rfl (by decide) (ot_b0 (fun z => Bool.noConfusion z)) rfl rfl
  · have hr : ot_stK Y t n e = (none, ot_ts t n e) := by unfold ot_stK; rw [ot_numk_n k1]
    rw [hr]
    rw [show ot_nv t n e 0 6 = -1 from if_neg k1] at c1
    refine ⟨A1, ?_, ot_rp.no F1 t1.2.1⟩
    refine jv_enter okX2_readCount (L := [.ref 44, .ref 26, .null, .null, .null]) rfl (Nat.le_of_ble_eq_true rfl) ?_
    refine jv_aload0 dX2_readCount_0 ?_
    refine jv_iconst dX2_readCount_1 jv_c_iconst_0 ?_
    refine jv_iconst dX2_readCount_2 jv_c_iconst_5 ?_
    refine jv_v21 dX2_readCount_3 okX2_nextNumber inX2_nextNumber seX2_nextNumber mlX2_96 (ci := 2) (T := TX2) (N := 5) rfl (tk hg) c1 (by decide) (Nat.le_of_ble_eq_true rfl) ?_
    refine jv_istore2 dX2_readCount_6 rfl ?_
    refine jv_iload2 dX2_readCount_7 ?_
    refine jv_iconst dX2_readCount_8 jv_c_iconst_m1 ?_
    refine jv_icmp_ne dX2_readCount_9 (tgt := 14) (by decide) (fun hz => absurd rfl hz) (fun hz => ?_)
    refine jv_iconst dX2_readCount_12 jv_c_iconst_0 ?_
    exact jv_iret dX2_readCount_13 rfl (by decide) (ot_b0 (fun z => Bool.noConfusion z)) rfl rfl
set_option maxRecDepth 20000 in
theorem oc_readWish {G : jv_Gr} {I : jv_I} {J : jv_J} (hg : ot_CG G) {n : Nat} {t : Nat → Nat} (hP : ot_tp I n t) {Y : ot_Y} (hY : ot_YR I 26 Y) (hW : ot_YW Y) {e : Nat} (he : e ≤ n) (h4 : I 44 4 = nI e) {g : Nat} (hg1 : g ≤ 1) (h20 : Y 10 2 < 20) : ∃ I2, jv_C 4 mX2_readWish [.ref 44, .ref 26, .int (nI g)] G I J (some (.int (jv_b ((ot_stW Y t n e g).1.isSome = true)))) G I2 J ∧ ot_rp I I2 (ot_stW Y t n e g) := by
  have bn := yw_n hW
  have bc := yw_c hW
  have bw := yw_w hW
  obtain ⟨A1, c1, f1, t1⟩ := oc_nextNumber (J := J) hg hP he h4 (lo := 0) (h1 := (Y 10 0)) (by decide) (by omega) (ot_hib_p (by omega))
  have F1 : ot_tf I A1 := f1
  have he1 := ot_te_le t he
  have hY1 := F1.yr hY
  have c10 := c1
  by_cases k1 : ot_nok t n e 0 (Y 10 0)
  · have kb1 := k1.2
    rw [show ot_nv t n e 0 (Y 10 0) = nI (ot_fg t n e) from if_pos k1] at c1
    obtain ⟨A2, c2, f2, t2⟩ := oc_nextNumber (J := J) hg (F1.tp hP) he1 t1.2.2 (lo := 0) (h1 := (Y 10 0)) (by decide) (by omega) (ot_hib_p (by omega))
    have F2 : ot_tf I A2 := F1.tr f2
    have he2 := ot_te_le t he1
    have hY2 := F2.yr hY
    have c20 := c2
    by_cases k2 : ot_nok t n (ot_te t n e) 0 (Y 10 0)
    · have kb2 := k2.2
      rw [show ot_nv t n (ot_te t n e) 0 (Y 10 0) = nI (ot_fg t n (ot_te t n e)) from if_pos k2] at c2
      by_cases es : ot_fg t n (ot_te t n e) = ot_fg t n e
      · have hr : ot_stW Y t n e g = (none, ot_ts t n (ot_te t n e)) := by unfold ot_stW ot_st2; rw [ot_numk_y k1, ot_numk_y k2, if_pos es]
        rw [hr]
        refine ⟨A2, ?_, ot_rp.no F2 t2.2.1⟩
        refine jv_enter okX2_readWish (L := [.ref 44, .ref 26, .int (nI g), .null, .null, .null]) rfl (Nat.le_of_ble_eq_true rfl) ?_
        refine jv_aload0 dX2_readWish_0 ?_
        refine jv_iconst dX2_readWish_1 jv_c_iconst_0 ?_
        refine jv_aload1 dX2_readWish_2 ?_
        refine jv_getI dX2_readWish_3 flX2_59 rfl (yk (cg_draft hg)) (yi_children hY) ?_
        refine jv_iconst dX2_readWish_6 jv_c_iconst_1 ?_
        refine jv_isub dX2_readWish_7 ?_
        refine jv_v21 dX2_readWish_8 okX2_nextNumber inX2_nextNumber seX2_nextNumber mlX2_96 (ci := 2) (T := TX2) (N := 5) rfl (tk hg) c1 (by decide) (Nat.le_of_ble_eq_true rfl) ?_
        refine jv_istore3 dX2_readWish_11 rfl ?_
        refine jv_iload3 dX2_readWish_12 ?_
        refine jv_iconst dX2_readWish_13 jv_c_iconst_m1 ?_
        refine jv_icmp_ne dX2_readWish_14 (tgt := 19) (by decide) (fun hz => ?_) (fun hz => absurd hz (ot_nI_n1 (by omega)))
        refine jv_aload0 dX2_readWish_19 ?_
        refine jv_iconst dX2_readWish_20 jv_c_iconst_0 ?_
        refine jv_aload1 dX2_readWish_21 ?_
        refine jv_getI dX2_readWish_22 flX2_59 rfl (yk (cg_draft hg)) (yi_children hY1) ?_
        refine jv_iconst dX2_readWish_25 jv_c_iconst_1 ?_
        refine jv_isub dX2_readWish_26 ?_
        refine jv_v21 dX2_readWish_27 okX2_nextNumber inX2_nextNumber seX2_nextNumber mlX2_96 (ci := 2) (T := TX2) (N := 5) rfl (tk hg) c2 (by decide) (Nat.le_of_ble_eq_true rfl) ?_
        refine jv_istore4 dX2_readWish_30 rfl ?_
        refine jv_iload4 dX2_readWish_32 ?_
        refine jv_iconst dX2_readWish_34 jv_c_iconst_m1 ?_
        refine jv_icmp_eq dX2_readWish_35 (tgt := 44) (by decide) (fun hz => absurd hz (ot_nI_n1 (by omega))) (fun hz => ?_)
        refine jv_iload4 dX2_readWish_38 ?_
        refine jv_iload3 dX2_readWish_40 ?_
        refine jv_icmp_neN dX2_readWish_41 (tgt := 46) (by decide) (by omega) (by omega) (fun hc41 => by omega) (fun hc41 => ?_)
        refine jv_iconst dX2_readWish_44 jv_c_iconst_0 ?_
        exact jv_iret dX2_readWish_45 rfl (by decide) (ot_b0 (fun z => Bool.noConfusion z)) rfl rfl
      · skip
        obtain ⟨A3, c3, f3, t3⟩ := oc_nextNumber (J := J) hg (F2.tp hP) he2 t2.2.2 (lo := 1) (h1 := 100) (by decide) (by omega) (ot_hib_c (c := 99) (by decide))
        have F3 : ot_tf I A3 := F2.tr f3
        have he3 := ot_te_le t he2
        have hY3 := F3.yr hY
        have c30 := c3
        by_cases k3 : ot_nok t n (ot_te t n (ot_te t n e)) 1 100
        · have kb3 := k3.2
          rw [show ot_nv t n (ot_te t n (ot_te t n e)) 1 100 = nI (ot_fg t n (ot_te t n (ot_te t n e))) from if_pos k3] at c3
          have eg : nI g = jv_b (g = 1) := by
            by_cases z : g = 1
            · rw [z]; rfl
            · rw [show g = 0 by omega]; rfl
          obtain ⟨Az, cz, hRz, hFz⟩ := ot_addWishM (J := J) (cg_draft hg) hY3 hW (a := (ot_fg t n e)) (b := (ot_fg t n (ot_te t n e))) (w := (ot_fg t n (ot_te t n (ot_te t n e)))) (g = 1) h20
          rw [show (if g = 1 then 1 else 0) = g by split <;> omega] at hRz
          rw [← eg] at cz
          have hr : ot_stW Y t n e g = (some (ot_addWish Y (ot_fg t n e) (ot_fg t n (ot_te t n e)) g (ot_fg t n (ot_te t n (ot_te t n e)))), (ot_te t n (ot_te t n (ot_te t n e)))) := by unfold ot_stW ot_st2; rw [ot_numk_y k1, ot_numk_y k2, if_neg es]; exact ot_numk_y k3
          rw [hr]
          refine ⟨Az, ?_, ot_rp.yes F3 t3.2.2 hFz hRz⟩
          refine jv_enter okX2_readWish (L := [.ref 44, .ref 26, .int (nI g), .null, .null, .null]) rfl (Nat.le_of_ble_eq_true rfl) ?_
          refine jv_aload0 dX2_readWish_0 ?_
          refine jv_iconst dX2_readWish_1 jv_c_iconst_0 ?_
          refine jv_aload1 dX2_readWish_2 ?_
          refine jv_getI dX2_readWish_3 flX2_59 rfl (yk (cg_draft hg)) (yi_children hY) ?_
          refine jv_iconst dX2_readWish_6 jv_c_iconst_1 ?_
          refine jv_isub dX2_readWish_7 ?_
          refine jv_v21 dX2_readWish_8 okX2_nextNumber inX2_nextNumber seX2_nextNumber mlX2_96 (ci := 2) (T := TX2) (N := 5) rfl (tk hg) c1 (by decide) (Nat.le_of_ble_eq_true rfl) ?_
          refine jv_istore3 dX2_readWish_11 rfl ?_
          refine jv_iload3 dX2_readWish_12 ?_
          refine jv_iconst dX2_readWish_13 jv_c_iconst_m1 ?_
          refine jv_icmp_ne dX2_readWish_14 (tgt := 19) (by decide) (fun hz => ?_) (fun hz => absurd hz (ot_nI_n1 (by omega)))
          refine jv_aload0 dX2_readWish_19 ?_
          refine jv_iconst dX2_readWish_20 jv_c_iconst_0 ?_
          refine jv_aload1 dX2_readWish_21 ?_
          refine jv_getI dX2_readWish_22 flX2_59 rfl (yk (cg_draft hg)) (yi_children hY1) ?_
          refine jv_iconst dX2_readWish_25 jv_c_iconst_1 ?_
          refine jv_isub dX2_readWish_26 ?_
          refine jv_v21 dX2_readWish_27 okX2_nextNumber inX2_nextNumber seX2_nextNumber mlX2_96 (ci := 2) (T := TX2) (N := 5) rfl (tk hg) c2 (by decide) (Nat.le_of_ble_eq_true rfl) ?_
          refine jv_istore4 dX2_readWish_30 rfl ?_
          refine jv_iload4 dX2_readWish_32 ?_
          refine jv_iconst dX2_readWish_34 jv_c_iconst_m1 ?_
          refine jv_icmp_eq dX2_readWish_35 (tgt := 44) (by decide) (fun hz => absurd hz (ot_nI_n1 (by omega))) (fun hz => ?_)
          refine jv_iload4 dX2_readWish_38 ?_
          refine jv_iload3 dX2_readWish_40 ?_
          refine jv_icmp_neN dX2_readWish_41 (tgt := 46) (by decide) (by omega) (by omega) (fun hc41 => ?_) (fun hc41 => by omega)
          refine jv_aload0 dX2_readWish_46 ?_
          refine jv_iconst dX2_readWish_47 jv_c_iconst_1 ?_
          refine jv_bipush dX2_readWish_48 jv_c_bipush_99 ?_
          refine jv_v21 dX2_readWish_50 okX2_nextNumber inX2_nextNumber seX2_nextNumber mlX2_96 (ci := 2) (T := TX2) (N := 5) rfl (tk hg) c3 (by decide) (Nat.le_of_ble_eq_true rfl) ?_
          refine jv_istore5 dX2_readWish_53 rfl ?_
          refine jv_iload5 dX2_readWish_55 ?_
          refine jv_iconst dX2_readWish_57 jv_c_iconst_m1 ?_
          refine jv_icmp_ne dX2_readWish_58 (tgt := 63) (by decide) (fun hz => ?_) (fun hz => absurd hz (ot_nI_n1 (by omega)))
          refine jv_aload1 dX2_readWish_63 ?_
          refine jv_iload3 dX2_readWish_64 ?_
          refine jv_iload4 dX2_readWish_65 ?_
          refine jv_iload2 dX2_readWish_67 ?_
          refine jv_iload5 dX2_readWish_68 ?_
          refine jv_v41 dX2_readWish_70 okX3_addWish inX3_addWish seX3_addWish mlX2_107 (ci := 3) (T := TX3) (N := 15) rfl (yk (cg_draft hg)) cz (by decide) (Nat.le_of_ble_eq_true rfl) ?_
          refine jv_pop dX2_readWish_73 rfl ?_
          refine jv_iconst dX2_readWish_74 jv_c_iconst_1 ?_
          exact jv_iret dX2_readWish_75 rfl (by decide) (ot_b1 rfl) rfl rfl
        · have hr : ot_stW Y t n e g = (none, ot_ts t n (ot_te t n (ot_te t n e))) := by unfold ot_stW ot_st2; rw [ot_numk_y k1, ot_numk_y k2, if_neg es]; exact ot_numk_n k3
          rw [hr]
          rw [show ot_nv t n (ot_te t n (ot_te t n e)) 1 100 = -1 from if_neg k3] at c3
          refine ⟨A3, ?_, ot_rp.no F3 t3.2.1⟩
          refine jv_enter okX2_readWish (L := [.ref 44, .ref 26, .int (nI g), .null, .null, .null]) rfl (Nat.le_of_ble_eq_true rfl) ?_
          refine jv_aload0 dX2_readWish_0 ?_
          refine jv_iconst dX2_readWish_1 jv_c_iconst_0 ?_
          refine jv_aload1 dX2_readWish_2 ?_
          refine jv_getI dX2_readWish_3 flX2_59 rfl (yk (cg_draft hg)) (yi_children hY) ?_
          refine jv_iconst dX2_readWish_6 jv_c_iconst_1 ?_
          refine jv_isub dX2_readWish_7 ?_
          refine jv_v21 dX2_readWish_8 okX2_nextNumber inX2_nextNumber seX2_nextNumber mlX2_96 (ci := 2) (T := TX2) (N := 5) rfl (tk hg) c1 (by decide) (Nat.le_of_ble_eq_true rfl) ?_
          refine jv_istore3 dX2_readWish_11 rfl ?_
          refine jv_iload3 dX2_readWish_12 ?_
          refine jv_iconst dX2_readWish_13 jv_c_iconst_m1 ?_
          refine jv_icmp_ne dX2_readWish_14 (tgt := 19) (by decide) (fun hz => ?_) (fun hz => absurd hz (ot_nI_n1 (by omega)))
          refine jv_aload0 dX2_readWish_19 ?_
          refine jv_iconst dX2_readWish_20 jv_c_iconst_0 ?_
          refine jv_aload1 dX2_readWish_21 ?_
          refine jv_getI dX2_readWish_22 flX2_59 rfl (yk (cg_draft hg)) (yi_children hY1) ?_
          refine jv_iconst dX2_readWish_25 jv_c_iconst_1 ?_
          refine jv_isub dX2_readWish_26 ?_
          refine jv_v21 dX2_readWish_27 okX2_nextNumber inX2_nextNumber seX2_nextNumber mlX2_96 (ci := 2) (T := TX2) (N := 5) rfl (tk hg) c2 (by decide) (Nat.le_of_ble_eq_true rfl) ?_
          refine jv_istore4 dX2_readWish_30 rfl ?_
          refine jv_iload4 dX2_readWish_32 ?_
          refine jv_iconst dX2_readWish_34 jv_c_iconst_m1 ?_
          refine jv_icmp_eq dX2_readWish_35 (tgt := 44) (by decide) (fun hz => absurd hz (ot_nI_n1 (by omega))) (fun hz => ?_)
          refine jv_iload4 dX2_readWish_38 ?_
          refine jv_iload3 dX2_readWish_40 ?_
          refine jv_icmp_neN dX2_readWish_41 (tgt := 46) (by decide) (by omega) (by omega) (fun hc41 => ?_) (fun hc41 => by omega)
          refine jv_aload0 dX2_readWish_46 ?_
          refine jv_iconst dX2_readWish_47 jv_c_iconst_1 ?_
          refine jv_bipush dX2_readWish_48 jv_c_bipush_99 ?_
          refine jv_v21 dX2_readWish_50 okX2_nextNumber inX2_nextNumber seX2_nextNumber mlX2_96 (ci := 2) (T := TX2) (N := 5) rfl (tk hg) c3 (by decide) (Nat.le_of_ble_eq_true rfl) ?_
          refine jv_istore5 dX2_readWish_53 rfl ?_
          refine jv_iload5 dX2_readWish_55 ?_
          refine jv_iconst dX2_readWish_57 jv_c_iconst_m1 ?_
          refine jv_icmp_ne dX2_readWish_58 (tgt := 63) (by decide) (fun hz => absurd rfl hz) (fun hz => ?_)
          refine jv_iconst dX2_readWish_61 jv_c_iconst_0 ?_
          exact jv_iret dX2_readWish_62 rfl (by decide) (ot_b0 (fun z => Bool.noConfusion z)) rfl rfl
    · have hr : ot_stW Y t n e g = (none, ot_ts t n (ot_te t n e)) := by unfold ot_stW ot_st2; rw [ot_numk_y k1, ot_numk_n k2]
      rw [hr]
      rw [show ot_nv t n (ot_te t n e) 0 (Y 10 0) = -1 from if_neg k2] at c2
      refine ⟨A2, ?_, ot_rp.no F2 t2.2.1⟩
      refine jv_enter okX2_readWish (L := [.ref 44, .ref 26, .int (nI g), .null, .null, .null]) rfl (Nat.le_of_ble_eq_true rfl) ?_
      refine jv_aload0 dX2_readWish_0 ?_
      refine jv_iconst dX2_readWish_1 jv_c_iconst_0 ?_
      refine jv_aload1 dX2_readWish_2 ?_
      refine jv_getI dX2_readWish_3 flX2_59 rfl (yk (cg_draft hg)) (yi_children hY) ?_
      refine jv_iconst dX2_readWish_6 jv_c_iconst_1 ?_
      refine jv_isub dX2_readWish_7 ?_
      refine jv_v21 dX2_readWish_8 okX2_nextNumber inX2_nextNumber seX2_nextNumber mlX2_96 (ci := 2) (T := TX2) (N := 5) rfl (tk hg) c1 (by decide) (Nat.le_of_ble_eq_true rfl) ?_
      refine jv_istore3 dX2_readWish_11 rfl ?_
      refine jv_iload3 dX2_readWish_12 ?_
      refine jv_iconst dX2_readWish_13 jv_c_iconst_m1 ?_
      refine jv_icmp_ne dX2_readWish_14 (tgt := 19) (by decide) (fun hz => ?_) (fun hz => absurd hz (ot_nI_n1 (by omega)))
      refine jv_aload0 dX2_readWish_19 ?_
      refine jv_iconst dX2_readWish_20 jv_c_iconst_0 ?_
      refine jv_aload1 dX2_readWish_21 ?_
      refine jv_getI dX2_readWish_22 flX2_59 rfl (yk (cg_draft hg)) (yi_children hY1) ?_
      refine jv_iconst dX2_readWish_25 jv_c_iconst_1 ?_
      refine jv_isub dX2_readWish_26 ?_
      refine jv_v21 dX2_readWish_27 okX2_nextNumber inX2_nextNumber seX2_nextNumber mlX2_96 (ci := 2) (T := TX2) (N := 5) rfl (tk hg) c2 (by decide) (Nat.le_of_ble_eq_true rfl) ?_
      refine jv_istore4 dX2_readWish_30 rfl ?_
      refine jv_iload4 dX2_readWish_32 ?_
      refine jv_iconst dX2_readWish_34 jv_c_iconst_m1 ?_
      refine jv_icmp_eq dX2_readWish_35 (tgt := 44) (by decide) (fun hz => ?_) (fun hz => absurd rfl hz)
      refine jv_iconst dX2_readWish_44 jv_c_iconst_0 ?_
      exact jv_iret dX2_readWish_45 rfl (by decide) (ot_b0 (fun z => Bool.noConfusion z)) rfl rfl
  · have hr : ot_stW Y t n e g = (none, ot_ts t n e) := by unfold ot_stW ot_st2; rw [ot_numk_n k1]
    rw [hr]
    rw [show ot_nv t n e 0 (Y 10 0) = -1 from if_neg k1] at c1
    refine ⟨A1, ?_, ot_rp.no F1 t1.2.1⟩
    refine jv_enter okX2_readWish (L := [.ref 44, .ref 26, .int (nI g), .null, .null, .null]) rfl (Nat.le_of_ble_eq_true rfl) ?_
    refine jv_aload0 dX2_readWish_0 ?_
    refine jv_iconst dX2_readWish_1 jv_c_iconst_0 ?_
    refine jv_aload1 dX2_readWish_2 ?_
    refine jv_getI dX2_readWish_3 flX2_59 rfl (yk (cg_draft hg)) (yi_children hY) ?_
    refine jv_iconst dX2_readWish_6 jv_c_iconst_1 ?_
    refine jv_isub dX2_readWish_7 ?_
    refine jv_v21 dX2_readWish_8 okX2_nextNumber inX2_nextNumber seX2_nextNumber mlX2_96 (ci := 2) (T := TX2) (N := 5) rfl (tk hg) c1 (by decide) (Nat.le_of_ble_eq_true rfl) ?_
    refine jv_istore3 dX2_readWish_11 rfl ?_
    refine jv_iload3 dX2_readWish_12 ?_
    refine jv_iconst dX2_readWish_13 jv_c_iconst_m1 ?_
    refine jv_icmp_ne dX2_readWish_14 (tgt := 19) (by decide) (fun hz => absurd rfl hz) (fun hz => ?_)
    refine jv_iconst dX2_readWish_17 jv_c_iconst_0 ?_
    exact jv_iret dX2_readWish_18 rfl (by decide) (ot_b0 (fun z => Bool.noConfusion z)) rfl rfl
set_option maxRecDepth 20000 in
theorem oc_readSwap {G : jv_Gr} {I : jv_I} {J : jv_J} (hg : ot_CG G) {n : Nat} {t : Nat → Nat} (hP : ot_tp I n t) {Y : ot_Y} (hY : ot_YR I 26 Y) (hW : ot_YW Y) {e : Nat} (he : e ≤ n) (h4 : I 44 4 = nI e)  : ∃ I2, jv_C 4 mX2_readSwap [.ref 44, .ref 26] G I J (some (.int (jv_b ((ot_stS Y t n e).1.isSome = true)))) G I2 J ∧ ot_rp I I2 (ot_stS Y t n e) := by
  have bn := yw_n hW
  have bc := yw_c hW
  have bw := yw_w hW
  obtain ⟨A1, c1, f1, t1⟩ := oc_nextNumber (J := J) hg hP he h4 (lo := 0) (h1 := (Y 10 0)) (by decide) (by omega) (ot_hib_p (by omega))
  have F1 : ot_tf I A1 := f1
  have he1 := ot_te_le t he
  have hY1 := F1.yr hY
  have c10 := c1
  by_cases k1 : ot_nok t n e 0 (Y 10 0)
  · have kb1 := k1.2
    rw [show ot_nv t n e 0 (Y 10 0) = nI (ot_fg t n e) from if_pos k1] at c1
    obtain ⟨A2, c2, f2, t2⟩ := oc_nextNumber (J := J) hg (F1.tp hP) he1 t1.2.2 (lo := 0) (h1 := (Y 10 0)) (by decide) (by omega) (ot_hib_p (by omega))
    have F2 : ot_tf I A2 := F1.tr f2
    have he2 := ot_te_le t he1
    have hY2 := F2.yr hY
    have c20 := c2
    by_cases k2 : ot_nok t n (ot_te t n e) 0 (Y 10 0)
    · have kb2 := k2.2
      rw [show ot_nv t n (ot_te t n e) 0 (Y 10 0) = nI (ot_fg t n (ot_te t n e)) from if_pos k2] at c2
      by_cases es : ot_fg t n (ot_te t n e) = ot_fg t n e
      · have hr : ot_stS Y t n e = (none, ot_ts t n (ot_te t n e)) := by unfold ot_stS ot_st2; rw [ot_numk_y k1, ot_numk_y k2, if_pos es]
        rw [hr]
        refine ⟨A2, ?_, ot_rp.no F2 t2.2.1⟩
        refine jv_enter okX2_readSwap (L := [.ref 44, .ref 26, .null, .null]) rfl (Nat.le_of_ble_eq_true rfl) ?_
        refine jv_aload0 dX2_readSwap_0 ?_
        refine jv_iconst dX2_readSwap_1 jv_c_iconst_0 ?_
        refine jv_aload1 dX2_readSwap_2 ?_
        refine jv_getI dX2_readSwap_3 flX2_59 rfl (yk (cg_draft hg)) (yi_children hY) ?_
        refine jv_iconst dX2_readSwap_6 jv_c_iconst_1 ?_
        refine jv_isub dX2_readSwap_7 ?_
        refine jv_v21 dX2_readSwap_8 okX2_nextNumber inX2_nextNumber seX2_nextNumber mlX2_96 (ci := 2) (T := TX2) (N := 5) rfl (tk hg) c1 (by decide) (Nat.le_of_ble_eq_true rfl) ?_
        refine jv_istore2 dX2_readSwap_11 rfl ?_
        refine jv_iload2 dX2_readSwap_12 ?_
        refine jv_iconst dX2_readSwap_13 jv_c_iconst_m1 ?_
        refine jv_icmp_ne dX2_readSwap_14 (tgt := 19) (by decide) (fun hz => ?_) (fun hz => absurd hz (ot_nI_n1 (by omega)))
        refine jv_aload0 dX2_readSwap_19 ?_
        refine jv_iconst dX2_readSwap_20 jv_c_iconst_0 ?_
        refine jv_aload1 dX2_readSwap_21 ?_
        refine jv_getI dX2_readSwap_22 flX2_59 rfl (yk (cg_draft hg)) (yi_children hY1) ?_
        refine jv_iconst dX2_readSwap_25 jv_c_iconst_1 ?_
        refine jv_isub dX2_readSwap_26 ?_
        refine jv_v21 dX2_readSwap_27 okX2_nextNumber inX2_nextNumber seX2_nextNumber mlX2_96 (ci := 2) (T := TX2) (N := 5) rfl (tk hg) c2 (by decide) (Nat.le_of_ble_eq_true rfl) ?_
        refine jv_istore3 dX2_readSwap_30 rfl ?_
        refine jv_iload3 dX2_readSwap_31 ?_
        refine jv_iconst dX2_readSwap_32 jv_c_iconst_m1 ?_
        refine jv_icmp_eq dX2_readSwap_33 (tgt := 41) (by decide) (fun hz => absurd hz (ot_nI_n1 (by omega))) (fun hz => ?_)
        refine jv_iload3 dX2_readSwap_36 ?_
        refine jv_iload2 dX2_readSwap_37 ?_
        refine jv_icmp_neN dX2_readSwap_38 (tgt := 43) (by decide) (by omega) (by omega) (fun hc38 => by omega) (fun hc38 => ?_)
        refine jv_iconst dX2_readSwap_41 jv_c_iconst_0 ?_
        exact jv_iret dX2_readSwap_42 rfl (by decide) (ot_b0 (fun z => Bool.noConfusion z)) rfl rfl
      · skip
        obtain ⟨Az, cz, hRz, hFz⟩ := ot_exchangeM (J := J) (cg_draft hg) hY2 hW (a := (ot_fg t n e)) (b := (ot_fg t n (ot_te t n e))) kb1.2 kb2.2
        have hr : ot_stS Y t n e = (some (ot_swap Y (ot_fg t n e) (ot_fg t n (ot_te t n e))), (ot_te t n (ot_te t n e))) := by unfold ot_stS ot_st2; rw [ot_numk_y k1, ot_numk_y k2, if_neg es]
        rw [hr]
        refine ⟨Az, ?_, ot_rp.yes F2 t2.2.2 (fun q hq => hFz q (by omega) (by omega)) hRz⟩
        refine jv_enter okX2_readSwap (L := [.ref 44, .ref 26, .null, .null]) rfl (Nat.le_of_ble_eq_true rfl) ?_
        refine jv_aload0 dX2_readSwap_0 ?_
        refine jv_iconst dX2_readSwap_1 jv_c_iconst_0 ?_
        refine jv_aload1 dX2_readSwap_2 ?_
        refine jv_getI dX2_readSwap_3 flX2_59 rfl (yk (cg_draft hg)) (yi_children hY) ?_
        refine jv_iconst dX2_readSwap_6 jv_c_iconst_1 ?_
        refine jv_isub dX2_readSwap_7 ?_
        refine jv_v21 dX2_readSwap_8 okX2_nextNumber inX2_nextNumber seX2_nextNumber mlX2_96 (ci := 2) (T := TX2) (N := 5) rfl (tk hg) c1 (by decide) (Nat.le_of_ble_eq_true rfl) ?_
        refine jv_istore2 dX2_readSwap_11 rfl ?_
        refine jv_iload2 dX2_readSwap_12 ?_
        refine jv_iconst dX2_readSwap_13 jv_c_iconst_m1 ?_
        refine jv_icmp_ne dX2_readSwap_14 (tgt := 19) (by decide) (fun hz => ?_) (fun hz => absurd hz (ot_nI_n1 (by omega)))
        refine jv_aload0 dX2_readSwap_19 ?_
        refine jv_iconst dX2_readSwap_20 jv_c_iconst_0 ?_
        refine jv_aload1 dX2_readSwap_21 ?_
        refine jv_getI dX2_readSwap_22 flX2_59 rfl (yk (cg_draft hg)) (yi_children hY1) ?_
        refine jv_iconst dX2_readSwap_25 jv_c_iconst_1 ?_
        refine jv_isub dX2_readSwap_26 ?_
        refine jv_v21 dX2_readSwap_27 okX2_nextNumber inX2_nextNumber seX2_nextNumber mlX2_96 (ci := 2) (T := TX2) (N := 5) rfl (tk hg) c2 (by decide) (Nat.le_of_ble_eq_true rfl) ?_
        refine jv_istore3 dX2_readSwap_30 rfl ?_
        refine jv_iload3 dX2_readSwap_31 ?_
        refine jv_iconst dX2_readSwap_32 jv_c_iconst_m1 ?_
        refine jv_icmp_eq dX2_readSwap_33 (tgt := 41) (by decide) (fun hz => absurd hz (ot_nI_n1 (by omega))) (fun hz => ?_)
        refine jv_iload3 dX2_readSwap_36 ?_
        refine jv_iload2 dX2_readSwap_37 ?_
        refine jv_icmp_neN dX2_readSwap_38 (tgt := 43) (by decide) (by omega) (by omega) (fun hc38 => ?_) (fun hc38 => by omega)
        refine jv_aload1 dX2_readSwap_43 ?_
        refine jv_iload2 dX2_readSwap_44 ?_
        refine jv_iload3 dX2_readSwap_45 ?_
        refine jv_v20 dX2_readSwap_46 okX3_exchange inX3_exchange seX3_exchange mlX2_111 (ci := 3) (T := TX3) (N := 15) rfl (yk (cg_draft hg)) cz (by decide) (Nat.le_of_ble_eq_true rfl) ?_
        refine jv_iconst dX2_readSwap_49 jv_c_iconst_1 ?_
        exact jv_iret dX2_readSwap_50 rfl (by decide) (ot_b1 rfl) rfl rfl
    · have hr : ot_stS Y t n e = (none, ot_ts t n (ot_te t n e)) := by unfold ot_stS ot_st2; rw [ot_numk_y k1, ot_numk_n k2]
      rw [hr]
      rw [show ot_nv t n (ot_te t n e) 0 (Y 10 0) = -1 from if_neg k2] at c2
      refine ⟨A2, ?_, ot_rp.no F2 t2.2.1⟩
      refine jv_enter okX2_readSwap (L := [.ref 44, .ref 26, .null, .null]) rfl (Nat.le_of_ble_eq_true rfl) ?_
      refine jv_aload0 dX2_readSwap_0 ?_
      refine jv_iconst dX2_readSwap_1 jv_c_iconst_0 ?_
      refine jv_aload1 dX2_readSwap_2 ?_
      refine jv_getI dX2_readSwap_3 flX2_59 rfl (yk (cg_draft hg)) (yi_children hY) ?_
      refine jv_iconst dX2_readSwap_6 jv_c_iconst_1 ?_
      refine jv_isub dX2_readSwap_7 ?_
      refine jv_v21 dX2_readSwap_8 okX2_nextNumber inX2_nextNumber seX2_nextNumber mlX2_96 (ci := 2) (T := TX2) (N := 5) rfl (tk hg) c1 (by decide) (Nat.le_of_ble_eq_true rfl) ?_
      refine jv_istore2 dX2_readSwap_11 rfl ?_
      refine jv_iload2 dX2_readSwap_12 ?_
      refine jv_iconst dX2_readSwap_13 jv_c_iconst_m1 ?_
      refine jv_icmp_ne dX2_readSwap_14 (tgt := 19) (by decide) (fun hz => ?_) (fun hz => absurd hz (ot_nI_n1 (by omega)))
      refine jv_aload0 dX2_readSwap_19 ?_
      refine jv_iconst dX2_readSwap_20 jv_c_iconst_0 ?_
      refine jv_aload1 dX2_readSwap_21 ?_
      refine jv_getI dX2_readSwap_22 flX2_59 rfl (yk (cg_draft hg)) (yi_children hY1) ?_
      refine jv_iconst dX2_readSwap_25 jv_c_iconst_1 ?_
      refine jv_isub dX2_readSwap_26 ?_
      refine jv_v21 dX2_readSwap_27 okX2_nextNumber inX2_nextNumber seX2_nextNumber mlX2_96 (ci := 2) (T := TX2) (N := 5) rfl (tk hg) c2 (by decide) (Nat.le_of_ble_eq_true rfl) ?_
      refine jv_istore3 dX2_readSwap_30 rfl ?_
      refine jv_iload3 dX2_readSwap_31 ?_
      refine jv_iconst dX2_readSwap_32 jv_c_iconst_m1 ?_
      refine jv_icmp_eq dX2_readSwap_33 (tgt := 41) (by decide) (fun hz => ?_) (fun hz => absurd rfl hz)
      refine jv_iconst dX2_readSwap_41 jv_c_iconst_0 ?_
      exact jv_iret dX2_readSwap_42 rfl (by decide) (ot_b0 (fun z => Bool.noConfusion z)) rfl rfl
  · have hr : ot_stS Y t n e = (none, ot_ts t n e) := by unfold ot_stS ot_st2; rw [ot_numk_n k1]
    rw [hr]
    rw [show ot_nv t n e 0 (Y 10 0) = -1 from if_neg k1] at c1
    refine ⟨A1, ?_, ot_rp.no F1 t1.2.1⟩
    refine jv_enter okX2_readSwap (L := [.ref 44, .ref 26, .null, .null]) rfl (Nat.le_of_ble_eq_true rfl) ?_
    refine jv_aload0 dX2_readSwap_0 ?_
    refine jv_iconst dX2_readSwap_1 jv_c_iconst_0 ?_
    refine jv_aload1 dX2_readSwap_2 ?_
    refine jv_getI dX2_readSwap_3 flX2_59 rfl (yk (cg_draft hg)) (yi_children hY) ?_
    refine jv_iconst dX2_readSwap_6 jv_c_iconst_1 ?_
    refine jv_isub dX2_readSwap_7 ?_
    refine jv_v21 dX2_readSwap_8 okX2_nextNumber inX2_nextNumber seX2_nextNumber mlX2_96 (ci := 2) (T := TX2) (N := 5) rfl (tk hg) c1 (by decide) (Nat.le_of_ble_eq_true rfl) ?_
    refine jv_istore2 dX2_readSwap_11 rfl ?_
    refine jv_iload2 dX2_readSwap_12 ?_
    refine jv_iconst dX2_readSwap_13 jv_c_iconst_m1 ?_
    refine jv_icmp_ne dX2_readSwap_14 (tgt := 19) (by decide) (fun hz => absurd rfl hz) (fun hz => ?_)
    refine jv_iconst dX2_readSwap_17 jv_c_iconst_0 ?_
    exact jv_iret dX2_readSwap_18 rfl (by decide) (ot_b0 (fun z => Bool.noConfusion z)) rfl rfl
set_option maxRecDepth 20000 in
theorem oc_readMove {G : jv_Gr} {I : jv_I} {J : jv_J} (hg : ot_CG G) {n : Nat} {t : Nat → Nat} (hP : ot_tp I n t) {Y : ot_Y} (hY : ot_YR I 26 Y) (hW : ot_YW Y) {e : Nat} (he : e ≤ n) (h4 : I 44 4 = nI e)  : ∃ I2, jv_C 4 mX2_readMove [.ref 44, .ref 26] G I J (some (.int (jv_b ((ot_stM Y t n e).1.isSome = true)))) G I2 J ∧ ot_rp I I2 (ot_stM Y t n e) := by
  have bn := yw_n hW
  have bc := yw_c hW
  have bw := yw_w hW
  obtain ⟨A1, c1, f1, t1⟩ := oc_nextNumber (J := J) hg hP he h4 (lo := 0) (h1 := (Y 10 0)) (by decide) (by omega) (ot_hib_p (by omega))
  have F1 : ot_tf I A1 := f1
  have he1 := ot_te_le t he
  have hY1 := F1.yr hY
  have c10 := c1
  by_cases k1 : ot_nok t n e 0 (Y 10 0)
  · have kb1 := k1.2
    rw [show ot_nv t n e 0 (Y 10 0) = nI (ot_fg t n e) from if_pos k1] at c1
    obtain ⟨A2, c2, f2, t2⟩ := oc_nextNumber (J := J) hg (F1.tp hP) he1 t1.2.2 (lo := 0) (h1 := (Y 10 0)) (by decide) (by omega) (ot_hib_p (by omega))
    have F2 : ot_tf I A2 := F1.tr f2
    have he2 := ot_te_le t he1
    have hY2 := F2.yr hY
    have c20 := c2
    by_cases k2 : ot_nok t n (ot_te t n e) 0 (Y 10 0)
    · have kb2 := k2.2
      rw [show ot_nv t n (ot_te t n e) 0 (Y 10 0) = nI (ot_fg t n (ot_te t n e)) from if_pos k2] at c2
      obtain ⟨Az, cz, hRz, hFz⟩ := ot_shiftM (J := J) (cg_draft hg) hY2 hW (c := (ot_fg t n e)) (t := (ot_fg t n (ot_te t n e))) kb1.2 kb2.2
      have hr : ot_stM Y t n e = (some (ot_move Y (ot_fg t n e) (ot_fg t n (ot_te t n e))), (ot_te t n (ot_te t n e))) := by unfold ot_stM; rw [ot_numk_y k1, ot_numk_y k2]
      rw [hr]
      refine ⟨Az, ?_, ot_rp.yes F2 t2.2.2 (fun q hq => hFz q (by omega) (by omega)) hRz⟩
      refine jv_enter okX2_readMove (L := [.ref 44, .ref 26, .null, .null]) rfl (Nat.le_of_ble_eq_true rfl) ?_
      refine jv_aload0 dX2_readMove_0 ?_
      refine jv_iconst dX2_readMove_1 jv_c_iconst_0 ?_
      refine jv_aload1 dX2_readMove_2 ?_
      refine jv_getI dX2_readMove_3 flX2_59 rfl (yk (cg_draft hg)) (yi_children hY) ?_
      refine jv_iconst dX2_readMove_6 jv_c_iconst_1 ?_
      refine jv_isub dX2_readMove_7 ?_
      refine jv_v21 dX2_readMove_8 okX2_nextNumber inX2_nextNumber seX2_nextNumber mlX2_96 (ci := 2) (T := TX2) (N := 5) rfl (tk hg) c1 (by decide) (Nat.le_of_ble_eq_true rfl) ?_
      refine jv_istore2 dX2_readMove_11 rfl ?_
      refine jv_iload2 dX2_readMove_12 ?_
      refine jv_iconst dX2_readMove_13 jv_c_iconst_m1 ?_
      refine jv_icmp_ne dX2_readMove_14 (tgt := 19) (by decide) (fun hz => ?_) (fun hz => absurd hz (ot_nI_n1 (by omega)))
      refine jv_aload0 dX2_readMove_19 ?_
      refine jv_iconst dX2_readMove_20 jv_c_iconst_0 ?_
      refine jv_aload1 dX2_readMove_21 ?_
      refine jv_getI dX2_readMove_22 flX2_59 rfl (yk (cg_draft hg)) (yi_children hY1) ?_
      refine jv_iconst dX2_readMove_25 jv_c_iconst_1 ?_
      refine jv_isub dX2_readMove_26 ?_
      refine jv_v21 dX2_readMove_27 okX2_nextNumber inX2_nextNumber seX2_nextNumber mlX2_96 (ci := 2) (T := TX2) (N := 5) rfl (tk hg) c2 (by decide) (Nat.le_of_ble_eq_true rfl) ?_
      refine jv_istore3 dX2_readMove_30 rfl ?_
      refine jv_iload3 dX2_readMove_31 ?_
      refine jv_iconst dX2_readMove_32 jv_c_iconst_m1 ?_
      refine jv_icmp_ne dX2_readMove_33 (tgt := 38) (by decide) (fun hz => ?_) (fun hz => absurd hz (ot_nI_n1 (by omega)))
      refine jv_aload1 dX2_readMove_38 ?_
      refine jv_iload2 dX2_readMove_39 ?_
      refine jv_iload3 dX2_readMove_40 ?_
      refine jv_v20 dX2_readMove_41 okX3_shift inX3_shift seX3_shift mlX2_115 (ci := 3) (T := TX3) (N := 15) rfl (yk (cg_draft hg)) cz (by decide) (Nat.le_of_ble_eq_true rfl) ?_
      refine jv_iconst dX2_readMove_44 jv_c_iconst_1 ?_
      exact jv_iret dX2_readMove_45 rfl (by decide) (ot_b1 rfl) rfl rfl
    · have hr : ot_stM Y t n e = (none, ot_ts t n (ot_te t n e)) := by unfold ot_stM; rw [ot_numk_y k1, ot_numk_n k2]
      rw [hr]
      rw [show ot_nv t n (ot_te t n e) 0 (Y 10 0) = -1 from if_neg k2] at c2
      refine ⟨A2, ?_, ot_rp.no F2 t2.2.1⟩
      refine jv_enter okX2_readMove (L := [.ref 44, .ref 26, .null, .null]) rfl (Nat.le_of_ble_eq_true rfl) ?_
      refine jv_aload0 dX2_readMove_0 ?_
      refine jv_iconst dX2_readMove_1 jv_c_iconst_0 ?_
      refine jv_aload1 dX2_readMove_2 ?_
      refine jv_getI dX2_readMove_3 flX2_59 rfl (yk (cg_draft hg)) (yi_children hY) ?_
      refine jv_iconst dX2_readMove_6 jv_c_iconst_1 ?_
      refine jv_isub dX2_readMove_7 ?_
      refine jv_v21 dX2_readMove_8 okX2_nextNumber inX2_nextNumber seX2_nextNumber mlX2_96 (ci := 2) (T := TX2) (N := 5) rfl (tk hg) c1 (by decide) (Nat.le_of_ble_eq_true rfl) ?_
      refine jv_istore2 dX2_readMove_11 rfl ?_
      refine jv_iload2 dX2_readMove_12 ?_
      refine jv_iconst dX2_readMove_13 jv_c_iconst_m1 ?_
      refine jv_icmp_ne dX2_readMove_14 (tgt := 19) (by decide) (fun hz => ?_) (fun hz => absurd hz (ot_nI_n1 (by omega)))
      refine jv_aload0 dX2_readMove_19 ?_
      refine jv_iconst dX2_readMove_20 jv_c_iconst_0 ?_
      refine jv_aload1 dX2_readMove_21 ?_
      refine jv_getI dX2_readMove_22 flX2_59 rfl (yk (cg_draft hg)) (yi_children hY1) ?_
      refine jv_iconst dX2_readMove_25 jv_c_iconst_1 ?_
      refine jv_isub dX2_readMove_26 ?_
      refine jv_v21 dX2_readMove_27 okX2_nextNumber inX2_nextNumber seX2_nextNumber mlX2_96 (ci := 2) (T := TX2) (N := 5) rfl (tk hg) c2 (by decide) (Nat.le_of_ble_eq_true rfl) ?_
      refine jv_istore3 dX2_readMove_30 rfl ?_
      refine jv_iload3 dX2_readMove_31 ?_
      refine jv_iconst dX2_readMove_32 jv_c_iconst_m1 ?_
      refine jv_icmp_ne dX2_readMove_33 (tgt := 38) (by decide) (fun hz => absurd rfl hz) (fun hz => ?_)
      refine jv_iconst dX2_readMove_36 jv_c_iconst_0 ?_
      exact jv_iret dX2_readMove_37 rfl (by decide) (ot_b0 (fun z => Bool.noConfusion z)) rfl rfl
  · have hr : ot_stM Y t n e = (none, ot_ts t n e) := by unfold ot_stM; rw [ot_numk_n k1]
    rw [hr]
    rw [show ot_nv t n e 0 (Y 10 0) = -1 from if_neg k1] at c1
    refine ⟨A1, ?_, ot_rp.no F1 t1.2.1⟩
    refine jv_enter okX2_readMove (L := [.ref 44, .ref 26, .null, .null]) rfl (Nat.le_of_ble_eq_true rfl) ?_
    refine jv_aload0 dX2_readMove_0 ?_
    refine jv_iconst dX2_readMove_1 jv_c_iconst_0 ?_
    refine jv_aload1 dX2_readMove_2 ?_
    refine jv_getI dX2_readMove_3 flX2_59 rfl (yk (cg_draft hg)) (yi_children hY) ?_
    refine jv_iconst dX2_readMove_6 jv_c_iconst_1 ?_
    refine jv_isub dX2_readMove_7 ?_
    refine jv_v21 dX2_readMove_8 okX2_nextNumber inX2_nextNumber seX2_nextNumber mlX2_96 (ci := 2) (T := TX2) (N := 5) rfl (tk hg) c1 (by decide) (Nat.le_of_ble_eq_true rfl) ?_
    refine jv_istore2 dX2_readMove_11 rfl ?_
    refine jv_iload2 dX2_readMove_12 ?_
    refine jv_iconst dX2_readMove_13 jv_c_iconst_m1 ?_
    refine jv_icmp_ne dX2_readMove_14 (tgt := 19) (by decide) (fun hz => absurd rfl hz) (fun hz => ?_)
    refine jv_iconst dX2_readMove_17 jv_c_iconst_0 ?_
    exact jv_iret dX2_readMove_18 rfl (by decide) (ot_b0 (fun z => Bool.noConfusion z)) rfl rfl
