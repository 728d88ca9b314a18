/-! wetFeast -/
def w_wet (a : Ab) : Nat := fsi (fun f => decide (hgt (qL a) (sfn (qL a) (qS a) (qL a 20 f).toNat) (qL a 19 f) < qL a 21 f)) (qL a 5 0).toNat
def v_wet (a : Ab) : Int := if qL a 1 0 = 0 then -1 else if w_wet a < (qL a 5 0).toNat then (w_wet a : Int) else -2
theorem c_wet {a : Ab} {t : Nat} {h : Hp} (HA : AW a) (H : CI a t h) : Cq (F_cs_wetFeast 0 h) h (v_wet a) (if qL a 1 0 = 0 then 1 else 0) := by
  have k := XS_k (XV_x H.1)
  have b1 := LW_h HA.1
  have b5 := LW_f HA.1
  have W := HA.2.1.1
  unfold v_wet
  by_cases c : qL a 1 0 = 0
  · rw [if_pos c, if_pos c]
    refine ⟨wF h 0 12 1, ?_, sc_w h 1, fi12 h (by omega)⟩
    unfold F_cs_wetFeast
    rw [ck_e k]
    simp (disch := first | with_reducible assumption | omega | trivial) only [bn_s1, bd_s1, ei_l1, ei_r1, gI_J, gL_J, gR_J, aI_J, aL_J, sI_J, sL_J, pI_J, pL_J, J_add, J_sub, J_mul, J_neg, J_lt, J_le, J_eq, dv_J, rm_J, if_pos, if_neg, ↓reduceIte, bitJ, shlJ, orJ, j_0, j_1, j_2, j_3, j_4, j_5, j_6, j_7, j_8, j_9, j_10, j_11, j_12, j_13, j_14, j_15, j_16, j_17, j_18, j_19, j_20, j_21, j_22, j_23, j_24, j_25, j_26, j_27, j_28, j_29, j_30, j_31, j_32, j_33, j_34, j_35, j_36, j_37, j_38, j_39, j_40, j_41, j_42, j_43, j_44, j_45, j_46, j_47, j_48, j_49, j_50, j_51, j_52, j_57, j_59, j_63, j_74, j_75, j_93, j_97, j_99, j_100, j_122, j_200, j_255, j_300, j_465, j_496, j_900, j_999, j_1000, j_65536, j_65537, j_99999, j_252645135, j_858993459, j_1431655765, k_0, k_1, k_27, k_32, k_74, k_75, k_100, k_1000, k_65537, nl_1 HA H c, ref_1 k]
  · rw [if_neg c, if_neg c]
    have H1 := CI_w (v := 0) (by omega) H
    have A1 := AW_w (v := 0) (by omega) HA
    have o := XV_o H1.1
    obtain ⟨m1, m2, m3⟩ := fsi_p (fun f => decide (hgt (qL a) (sfn (qL a) (qS a) (qL a 20 f).toNat) (qL a 19 f) < qL a 21 f)) (qL a 5 0).toNat
    have wl : w_wet a ≤ (qL a 5 0).toNat := m1
    have stp : ∀ (i : Nat) (h2 : Hp), (i : Int) < qL a 5 0 → Sc (wF h 0 12 0) h2 → fi h2 0 12 = 0 → ∃ h3, F_cs_measureIn 0 (J (qL a 20 i)) h2 = some h3 ∧ Sc (wF h 0 12 0) h3 ∧ fi h3 0 12 = 0 ∧ ia h3 53 (qL a 19 i) = hgt (qL a) (sfn (qL a) (qS a) (qL a 20 i).toNat) (qL a 19 i) := by
      intro i h2 hi s2 g2
      have w := LW_fs HA.1 i (by omega) hi
      have H2 := CI_q s2 g2 H1
      obtain ⟨h3, e3, s3, g3, m3⟩ := C_measureIn (n := (qL a 20 i).toNat) (AW_w (v := 0) (by omega) A1) H2 (by omega)
      have ez : (((qL a 20 i).toNat : Nat) : Int) = qL a 20 i := by omega
      rw [ez] at e3
      replace m3 : RM (qL a) (net (qL a) (sfn (qL a) (qS a) (qL a 20 i).toNat)) (sfn (qL a) (qS a) (qL a 20 i).toNat 28).toNat 50 h3 := m3
      exact ⟨h3, e3, sc_tr s2 s3, by rw [g3]; exact g2, RM_ia m3 w.1 w.2.1⟩
    obtain ⟨y, h2, e2, q2⟩ := lp_for (b := B_cs_wetFeast_16 0) (f := FU) (s := J 0) (h := wF h 0 12 0) (fun i s h' => s = J i ∧ Sc (wF h 0 12 0) h' ∧ fi h' 0 12 = 0) (fun y h' => y = (if w_wet a < (qL a 5 0).toNat then Sum.inr (J (w_wet a : Nat)) else Sum.inl ()) ∧ Sc (wF h 0 12 0) h' ∧ fi h' 0 12 = 0) (w_wet a) (by unfold FU; omega) ⟨rfl, sc_rf _, fi12 h (by omega)⟩ (fun i s h2 hi hI => by
        obtain ⟨rfl, s2, g2⟩ := hI
        have w := LW_fs HA.1 i (by omega) (by omega)
        obtain ⟨h3, e3, s3, g3, v3⟩ := stp i h2 (by omega) s2 g2
        have V2 := XV_fm s2.1 (by omega) H1.1
        have V3 := XV_fm s3.1 (by omega) H1.1
        have X2 := XV_x V2; have X3 := XV_x V3; have T2 := XV_ts V2; have T3 := XV_ts V3; have R3 := XV_r50 V3
        have R2 := sc_TR s2 o H1.2.1
        have R3' := sc_TR s3 o H1.2.1
        have kk := XS_k X2; have rt := XV_t V2; have tk := TS_k T2; have tr16 := TS_r16 T2; have tk16 := TS_k16 T2; have tn16 := TS_n16 T2
        have kk3 := XS_k X3; have rt3 := XV_t V3; have r63 := XS_r6 X3; have tk3 := TS_k T3; have tr15 := TS_r15 T3; have tk15 := TS_k15 T3; have tn15 := TS_n15 T3; have tr17 := TS_r17 T3; have tk17 := TS_k17 T3; have tn17 := TS_n17 T3
        have rk := RS_k R3; have rr := RS_r3 R3; have rk3 := RS_k3 R3; have rn3 := RS_n3 R3
        have vf : fi h2 t 14 = qL a 5 0 := TR_f R2
        have v16 : ia h2 (t + 10) i = qL a 20 i := TR_fw R2 i (by omega) (show (i : Int) < qL a 5 0 by omega)
        have v15 : ia h3 (t + 9) i = qL a 19 i := TR_fa R3' i (by omega) (show (i : Int) < qL a 5 0 by omega)
        have v17 : ia h3 (t + 11) i = qL a 21 i := TR_fh R3' i (by omega) (show (i : Int) < qL a 5 0 by omega)
        have Wi := sfn_sw HA.1 (by omega) W (qL a 20 i).toNat
        have hb := hgt_b HA.1 (sw_stk (by omega) Wi) w.1 w.2.1
        have nn : ¬ hgt (qL a) (sfn (qL a) (qS a) (qL a 20 i).toNat) (qL a 19 i) < qL a 21 i := of_decide_eq_false (m2 i hi)
        refine ⟨J (i + 1), h3, ?_, rfl, s3, g3⟩
        unfold B_cs_wetFeast_16
        simp (disch := first | with_reducible assumption | omega | trivial) only [bn_s1, bd_s1, ei_l1, ei_r1, gI_J, gL_J, gR_J, aI_J, aL_J, sI_J, sL_J, pI_J, pL_J, J_add, J_sub, J_mul, J_neg, J_lt, J_le, J_eq, dv_J, rm_J, if_pos, if_neg, ↓reduceIte, bitJ, shlJ, orJ, j_0, j_1, j_2, j_3, j_4, j_5, j_6, j_7, j_8, j_9, j_10, j_11, j_12, j_13, j_14, j_15, j_16, j_17, j_18, j_19, j_20, j_21, j_22, j_23, j_24, j_25, j_26, j_27, j_28, j_29, j_30, j_31, j_32, j_33, j_34, j_35, j_36, j_37, j_38, j_39, j_40, j_41, j_42, j_43, j_44, j_45, j_46, j_47, j_48, j_49, j_50, j_51, j_52, j_57, j_59, j_63, j_74, j_75, j_93, j_97, j_99, j_100, j_122, j_200, j_255, j_300, j_465, j_496, j_900, j_999, j_1000, j_65536, j_65537, j_99999, j_252645135, j_858993459, j_1431655765, k_0, k_1, k_27, k_32, k_74, k_75, k_100, k_1000, k_65537, rt, vf, tr16, v16, e3, r63, rr, rt3, tr15, v15, v3, tr17, v17]) (fun s h2 hI => by
        obtain ⟨rfl, s2, g2⟩ := hI
        have V2 := XV_fm s2.1 (by omega) H1.1
        have X2 := XV_x V2; have T2 := XV_ts V2
        have R2 := sc_TR s2 o H1.2.1
        have kk := XS_k X2; have rt := XV_t V2; have tk := TS_k T2; have tr16 := TS_r16 T2; have tk16 := TS_k16 T2; have tn16 := TS_n16 T2
        have vf : fi h2 t 14 = qL a 5 0 := TR_f R2
        by_cases cm : w_wet a < (qL a 5 0).toNat
        · have w := LW_fs HA.1 (w_wet a : Nat) (by omega) (by omega)
          obtain ⟨h3, e3, s3, g3, v3⟩ := stp (w_wet a) h2 (by omega) s2 g2
          have V3 := XV_fm s3.1 (by omega) H1.1
          have X3 := XV_x V3; have T3 := XV_ts V3; have R3 := XV_r50 V3
          have R3' := sc_TR s3 o H1.2.1
          have kk3 := XS_k X3; have rt3 := XV_t V3; have r63 := XS_r6 X3; have tk3 := TS_k T3; have tr15 := TS_r15 T3; have tk15 := TS_k15 T3; have tn15 := TS_n15 T3; have tr17 := TS_r17 T3; have tk17 := TS_k17 T3; have tn17 := TS_n17 T3
          have rk := RS_k R3; have rr := RS_r3 R3; have rk3 := RS_k3 R3; have rn3 := RS_n3 R3
          have v16 : ia h2 (t + 10) (w_wet a : Nat) = qL a 20 (w_wet a : Nat) := TR_fw R2 _ (by omega) (show ((w_wet a : Nat) : Int) < qL a 5 0 by omega)
          have v15 : ia h3 (t + 9) (w_wet a : Nat) = qL a 19 (w_wet a : Nat) := TR_fa R3' _ (by omega) (show ((w_wet a : Nat) : Int) < qL a 5 0 by omega)
          have v17 : ia h3 (t + 11) (w_wet a : Nat) = qL a 21 (w_wet a : Nat) := TR_fh R3' _ (by omega) (show ((w_wet a : Nat) : Int) < qL a 5 0 by omega)
          have Wi := sfn_sw HA.1 (by omega) W (qL a 20 (w_wet a : Nat)).toNat
          have hb := hgt_b HA.1 (sw_stk (by omega) Wi) w.1 w.2.1
          have yy : hgt (qL a) (sfn (qL a) (qS a) (qL a 20 (w_wet a : Nat)).toNat) (qL a 19 (w_wet a : Nat)) < qL a 21 (w_wet a : Nat) := of_decide_eq_true (m3 cm)
          refine ⟨_, h3, ?_, (if_pos cm).symm, s3, g3⟩
          unfold B_cs_wetFeast_16
          simp (disch := first | with_reducible assumption | omega | trivial) only [bn_s1, bd_s1, ei_l1, ei_r1, gI_J, gL_J, gR_J, aI_J, aL_J, sI_J, sL_J, pI_J, pL_J, J_add, J_sub, J_mul, J_neg, J_lt, J_le, J_eq, dv_J, rm_J, if_pos, if_neg, ↓reduceIte, bitJ, shlJ, orJ, j_0, j_1, j_2, j_3, j_4, j_5, j_6, j_7, j_8, j_9, j_10, j_11, j_12, j_13, j_14, j_15, j_16, j_17, j_18, j_19, j_20, j_21, j_22, j_23, j_24, j_25, j_26, j_27, j_28, j_29, j_30, j_31, j_32, j_33, j_34, j_35, j_36, j_37, j_38, j_39, j_40, j_41, j_42, j_43, j_44, j_45, j_46, j_47, j_48, j_49, j_50, j_51, j_52, j_57, j_59, j_63, j_74, j_75, j_93, j_97, j_99, j_100, j_122, j_200, j_255, j_300, j_465, j_496, j_900, j_999, j_1000, j_65536, j_65537, j_99999, j_252645135, j_858993459, j_1431655765, k_0, k_1, k_27, k_32, k_74, k_75, k_100, k_1000, k_65537, rt, vf, tr16, v16, e3, r63, rr, rt3, tr15, v15, v3, tr17, v17]
        · refine ⟨_, h2, ?_, (if_neg cm).symm, s2, g2⟩
          unfold B_cs_wetFeast_16
          simp (disch := first | with_reducible assumption | omega | trivial) only [bn_s1, bd_s1, ei_l1, ei_r1, gI_J, gL_J, gR_J, aI_J, aL_J, sI_J, sL_J, pI_J, pL_J, J_add, J_sub, J_mul, J_neg, J_lt, J_le, J_eq, dv_J, rm_J, if_pos, if_neg, ↓reduceIte, bitJ, shlJ, orJ, j_0, j_1, j_2, j_3, j_4, j_5, j_6, j_7, j_8, j_9, j_10, j_11, j_12, j_13, j_14, j_15, j_16, j_17, j_18, j_19, j_20, j_21, j_22, j_23, j_24, j_25, j_26, j_27, j_28, j_29, j_30, j_31, j_32, j_33, j_34, j_35, j_36, j_37, j_38, j_39, j_40, j_41, j_42, j_43, j_44, j_45, j_46, j_47, j_48, j_49, j_50, j_51, j_52, j_57, j_59, j_63, j_74, j_75, j_93, j_97, j_99, j_100, j_122, j_200, j_255, j_300, j_465, j_496, j_900, j_999, j_1000, j_65536, j_65537, j_99999, j_252645135, j_858993459, j_1431655765, k_0, k_1, k_27, k_32, k_74, k_75, k_100, k_1000, k_65537, rt, vf])
    refine ⟨h2, ?_, sc_tr (sc_w h 0) q2.2.1, q2.2.2⟩
    unfold F_cs_wetFeast
    rw [ck_e k]
    by_cases cm : w_wet a < (qL a 5 0).toNat
    · rw [if_pos cm] at q2 ⊢
      simp (disch := first | with_reducible assumption | omega | trivial) only [bn_s1, bd_s1, ei_l1, ei_r1, gI_J, gL_J, gR_J, aI_J, aL_J, sI_J, sL_J, pI_J, pL_J, J_add, J_sub, J_mul, J_neg, J_lt, J_le, J_eq, dv_J, rm_J, if_pos, if_neg, ↓reduceIte, bitJ, shlJ, orJ, j_0, j_1, j_2, j_3, j_4, j_5, j_6, j_7, j_8, j_9, j_10, j_11, j_12, j_13, j_14, j_15, j_16, j_17, j_18, j_19, j_20, j_21, j_22, j_23, j_24, j_25, j_26, j_27, j_28, j_29, j_30, j_31, j_32, j_33, j_34, j_35, j_36, j_37, j_38, j_39, j_40, j_41, j_42, j_43, j_44, j_45, j_46, j_47, j_48, j_49, j_50, j_51, j_52, j_57, j_59, j_63, j_74, j_75, j_93, j_97, j_99, j_100, j_122, j_200, j_255, j_300, j_465, j_496, j_900, j_999, j_1000, j_65536, j_65537, j_99999, j_252645135, j_858993459, j_1431655765, k_0, k_1, k_27, k_32, k_74, k_75, k_100, k_1000, k_65537, nl_0 HA H c, ref_0 k, e2, q2.1]
    · rw [if_neg cm] at q2 ⊢
      simp (disch := first | with_reducible assumption | omega | trivial) only [bn_s1, bd_s1, ei_l1, ei_r1, gI_J, gL_J, gR_J, aI_J, aL_J, sI_J, sL_J, pI_J, pL_J, J_add, J_sub, J_mul, J_neg, J_lt, J_le, J_eq, dv_J, rm_J, if_pos, if_neg, ↓reduceIte, bitJ, shlJ, orJ, j_0, j_1, j_2, j_3, j_4, j_5, j_6, j_7, j_8, j_9, j_10, j_11, j_12, j_13, j_14, j_15, j_16, j_17, j_18, j_19, j_20, j_21, j_22, j_23, j_24, j_25, j_26, j_27, j_28, j_29, j_30, j_31, j_32, j_33, j_34, j_35, j_36, j_37, j_38, j_39, j_40, j_41, j_42, j_43, j_44, j_45, j_46, j_47, j_48, j_49, j_50, j_51, j_52, j_57, j_59, j_63, j_74, j_75, j_93, j_97, j_99, j_100, j_122, j_200, j_255, j_300, j_465, j_496, j_900, j_999, j_1000, j_65536, j_65537, j_99999, j_252645135, j_858993459, j_1431655765, k_0, k_1, k_27, k_32, k_74, k_75, k_100, k_1000, k_65537, nl_0 HA H c, ref_0 k, e2, q2.1]
theorem D_isDry {L : Lk} {b : Nat} {h : Hp} {S : Sk} {i : Nat} (HL : LW L) (HC : RC L b h) (HX : XR S h) (hs : stk L S) (hi : i < L 5 0) : F_md_isDry 88 (J i) h = some (J (if hgt L S (L 19 i) < L 21 i then 0 else 1)) := by
  have rb := HC.2.1
  have Y := HC.2.2.1
  have b5 := LW_f HL
  have w := LW_fs HL i (by omega) hi
  have k := MS_k HC.1
  have yk := YS_k Y; have yr19 := YS_r19 Y; have yk19 := YS_k19 Y; have yn19 := YS_n19 Y; have yr21 := YS_r21 Y; have yk21 := YS_k21 Y; have yn21 := YS_n21 Y
  have v := HC.2.2.2.1.2.2.2.2.2.2.1 i (by omega) hi
  have v1 := v.1
  have v3 := v.2.2
  have eh := D_heightOf HL HC HX hs (z := (L 19 i).toNat) (by omega)
  have ez : (((L 19 i).toNat : Nat) : Int) = L 19 i := by omega
  rw [ez] at eh
  have hb := hgt_b HL hs w.1 w.2.1
  unfold F_md_isDry
  rw [ck_e k]
  by_cases c : hgt L S (L 19 i) < L 21 i
  · rw [if_pos c]
    simp (disch := first | with_reducible assumption | omega | trivial) only [bn_s1, bd_s1, ei_l1, ei_r1, gI_J, gL_J, gR_J, aI_J, aL_J, sI_J, sL_J, pI_J, pL_J, J_add, J_sub, J_mul, J_neg, J_lt, J_le, J_eq, dv_J, rm_J, if_pos, if_neg, ↓reduceIte, bitJ, shlJ, orJ, j_0, j_1, j_2, j_3, j_4, j_5, j_6, j_7, j_8, j_9, j_10, j_11, j_12, j_13, j_14, j_15, j_16, j_17, j_18, j_19, j_20, j_21, j_22, j_23, j_24, j_25, j_26, j_27, j_28, j_29, j_30, j_31, j_32, j_33, j_34, j_35, j_36, j_37, j_38, j_39, j_40, j_41, j_42, j_43, j_44, j_45, j_46, j_47, j_48, j_49, j_50, j_51, j_52, j_57, j_59, j_63, j_74, j_75, j_93, j_97, j_99, j_100, j_122, j_200, j_255, j_300, j_465, j_496, j_900, j_999, j_1000, j_65536, j_65537, j_99999, j_252645135, j_858993459, j_1431655765, k_0, k_1, k_27, k_32, k_74, k_75, k_100, k_1000, k_65537, rb, yr19, v1, eh, yr21, v3]
  · rw [if_neg c]
    simp (disch := first | with_reducible assumption | omega | trivial) only [bn_s1, bd_s1, ei_l1, ei_r1, gI_J, gL_J, gR_J, aI_J, aL_J, sI_J, sL_J, pI_J, pL_J, J_add, J_sub, J_mul, J_neg, J_lt, J_le, J_eq, dv_J, rm_J, if_pos, if_neg, ↓reduceIte, bitJ, shlJ, orJ, j_0, j_1, j_2, j_3, j_4, j_5, j_6, j_7, j_8, j_9, j_10, j_11, j_12, j_13, j_14, j_15, j_16, j_17, j_18, j_19, j_20, j_21, j_22, j_23, j_24, j_25, j_26, j_27, j_28, j_29, j_30, j_31, j_32, j_33, j_34, j_35, j_36, j_37, j_38, j_39, j_40, j_41, j_42, j_43, j_44, j_45, j_46, j_47, j_48, j_49, j_50, j_51, j_52, j_57, j_59, j_63, j_74, j_75, j_93, j_97, j_99, j_100, j_122, j_200, j_255, j_300, j_465, j_496, j_900, j_999, j_1000, j_65536, j_65537, j_99999, j_252645135, j_858993459, j_1431655765, k_0, k_1, k_27, k_32, k_74, k_75, k_100, k_1000, k_65537, rb, yr19, v1, eh, yr21, v3]
theorem d_wet {a : Ab} {h : Hp} (HA : AW a) (H : RI a h) : Dq (F_md_wetFeast 88 h) h (v_wet a) (if qL a 1 0 = 0 then 1 else 0) := by
  have k := MS_k H.1
  have H1 := RI_0 H
  have k1 := MS_k H1.1
  have b5 := LW_f HA.1
  have W := HA.2.1.1
  unfold v_wet
  by_cases c : qL a 1 0 = 0
  · rw [if_pos c, if_pos c]
    obtain ⟨h2, e2, q2, f2⟩ := ref_e (y := 1) H1.1 (by omega)
    refine ⟨h2, ?_, qr_tr (q00 h) q2, f2⟩
    unfold F_md_wetFeast
    rw [ck_e k]
    simp (disch := first | with_reducible assumption | omega | trivial) only [bn_s1, bd_s1, ei_l1, ei_r1, gI_J, gL_J, gR_J, aI_J, aL_J, sI_J, sL_J, pI_J, pL_J, J_add, J_sub, J_mul, J_neg, J_lt, J_le, J_eq, dv_J, rm_J, if_pos, if_neg, ↓reduceIte, bitJ, shlJ, orJ, j_0, j_1, j_2, j_3, j_4, j_5, j_6, j_7, j_8, j_9, j_10, j_11, j_12, j_13, j_14, j_15, j_16, j_17, j_18, j_19, j_20, j_21, j_22, j_23, j_24, j_25, j_26, j_27, j_28, j_29, j_30, j_31, j_32, j_33, j_34, j_35, j_36, j_37, j_38, j_39, j_40, j_41, j_42, j_43, j_44, j_45, j_46, j_47, j_48, j_49, j_50, j_51, j_52, j_57, j_59, j_63, j_74, j_75, j_93, j_97, j_99, j_100, j_122, j_200, j_255, j_300, j_465, j_496, j_900, j_999, j_1000, j_65536, j_65537, j_99999, j_252645135, j_858993459, j_1431655765, k_0, k_1, k_27, k_32, k_74, k_75, k_100, k_1000, k_65537, gQ_J, lk_0 H1 c, e2]
  · rw [if_neg c, if_neg c]
    obtain ⟨b, C1⟩ := lk_1 H1 c
    have e := C1.2.1
    have ne : ¬ (some b = none) := by intro x; cases x
    obtain ⟨m1, m2, m3⟩ := fsi_p (fun f => decide (hgt (qL a) (sfn (qL a) (qS a) (qL a 20 f).toNat) (qL a 19 f) < qL a 21 f)) (qL a 5 0).toNat
    have wl : w_wet a ≤ (qL a 5 0).toNat := m1
    have stp : ∀ (i : Nat) (h2 : Hp), (i : Int) < qL a 5 0 → Qr (wF h 88 0 0) h2 → ∃ h3 h4, F_md_works 88 h2 = some h3 ∧ RC (qL a) b h3 ∧ F_md_softensAll 88 (J (qL a 20 i)) h3 = some h4 ∧ Qr (wF h 88 0 0) h4 ∧ F_md_isDry 88 (J i) h4 = some (J (if hgt (qL a) (sfn (qL a) (qS a) (qL a 20 i).toNat) (qL a 19 i) < qL a 21 i then 0 else 1)) := by
      intro i h2 hi q2
      have w := LW_fs HA.1 i (by omega) hi
      have C2 := RC_qr q2 C1
      obtain ⟨h3, e3, f3, x3⟩ := D_works C2.1 (S := qS a) (fun j j0 j1 => by unfold ia; rw [q2.2.1 90 (by omega)]; exact H1.2.2.1 j j0 j1)
      have C3 := RC_qr (qr_91 f3) C2
      obtain ⟨h4, e4, f4, x4⟩ := D_softensAll (n := (qL a 20 i).toNat) HA.1 C3 x3 (by omega)
      have ez : (((qL a 20 i).toNat : Nat) : Int) = qL a 20 i := by omega
      rw [ez] at e4
      have C4 := RC_qr (qr_91 f4) C3
      exact ⟨h3, h4, e3, C3, e4, qr_tr q2 (qr_tr (qr_91 f3) (qr_91 f4)), D_isDry HA.1 C4 x4 (sw_stk (by omega) (sfn_sw HA.1 (by omega) W _)) hi⟩
    obtain ⟨y, h3, e3, q3⟩ := lp_for (b := B_md_wetFeast_20 88) (f := FU) (s := J 0) (h := wF h 88 0 0) (fun i s h' => s = J i ∧ Qr (wF h 88 0 0) h') (fun y h' => (w_wet a < (qL a 5 0).toNat → (y = Sum.inr (J (w_wet a : Nat)) ∧ Qr (wF h 88 0 0) h' ∧ fi h' 88 1 = 0 ∧ fi h' 88 2 = -1)) ∧ (¬ w_wet a < (qL a 5 0).toNat → (y = Sum.inl () ∧ Qr (wF h 88 0 0) h'))) (w_wet a) (by unfold FU; omega) ⟨rfl, qr_rf _⟩ (fun i s h3 hi hI => by
        obtain ⟨rfl, q3⟩ := hI
        have w := LW_fs HA.1 i (by omega) (by omega)
        obtain ⟨h4, h5, e4, C4, e5, q5, e6⟩ := stp i h3 (by omega) q3
        have C3 := RC_qr q3 C1
        have rb := C3.2.1; have yk := YS_k C3.2.2.1; have cf := C3.2.2.2.1.1.2.2.2.2.2.1; have k3 := MS_k C3.1
        have rb4 := C4.2.1; have Y4 := C4.2.2.1; have k4 := MS_k C4.1
        have yk4 := YS_k Y4; have yr20 := YS_r20 Y4; have yk20 := YS_k20 Y4; have yn20 := YS_n20 Y4
        have v20 := (C4.2.2.2.1.2.2.2.2.2.2.1 i (by omega) (by omega)).2.1
        have nn : ¬ hgt (qL a) (sfn (qL a) (qS a) (qL a 20 i).toNat) (qL a 19 i) < qL a 21 i := of_decide_eq_false (m2 i hi)
        rw [if_neg nn] at e6
        refine ⟨J (i + 1), h5, ?_, rfl, q5⟩
        unfold B_md_wetFeast_20
        simp (disch := first | with_reducible assumption | omega | trivial) only [bn_s1, bd_s1, ei_l1, ei_r1, gI_J, gL_J, gR_J, aI_J, aL_J, sI_J, sL_J, pI_J, pL_J, J_add, J_sub, J_mul, J_neg, J_lt, J_le, J_eq, dv_J, rm_J, if_pos, if_neg, ↓reduceIte, bitJ, shlJ, orJ, j_0, j_1, j_2, j_3, j_4, j_5, j_6, j_7, j_8, j_9, j_10, j_11, j_12, j_13, j_14, j_15, j_16, j_17, j_18, j_19, j_20, j_21, j_22, j_23, j_24, j_25, j_26, j_27, j_28, j_29, j_30, j_31, j_32, j_33, j_34, j_35, j_36, j_37, j_38, j_39, j_40, j_41, j_42, j_43, j_44, j_45, j_46, j_47, j_48, j_49, j_50, j_51, j_52, j_57, j_59, j_63, j_74, j_75, j_93, j_97, j_99, j_100, j_122, j_200, j_255, j_300, j_465, j_496, j_900, j_999, j_1000, j_65536, j_65537, j_99999, j_252645135, j_858993459, j_1431655765, k_0, k_1, k_27, k_32, k_74, k_75, k_100, k_1000, k_65537, rb, cf, e4, rb4, yr20, v20, e5, e6]) (fun s h3 hI => by
        obtain ⟨rfl, q3⟩ := hI
        have C3 := RC_qr q3 C1
        have rb := C3.2.1; have yk := YS_k C3.2.2.1; have cf := C3.2.2.2.1.1.2.2.2.2.2.1; have k3 := MS_k C3.1
        by_cases cm : w_wet a < (qL a 5 0).toNat
        · have w := LW_fs HA.1 (w_wet a : Nat) (by omega) (by omega)
          obtain ⟨h4, h5, e4, C4, e5, q5, e6⟩ := stp (w_wet a) h3 (by omega) q3
          have rb4 := C4.2.1; have Y4 := C4.2.2.1; have k4 := MS_k C4.1
          have yk4 := YS_k Y4; have yr20 := YS_r20 Y4; have yk20 := YS_k20 Y4; have yn20 := YS_n20 Y4
          have v20 := (C4.2.2.2.1.2.2.2.2.2.2.1 (w_wet a : Nat) (by omega) (by omega)).2.1
          have yy : hgt (qL a) (sfn (qL a) (qS a) (qL a 20 (w_wet a : Nat)).toNat) (qL a 19 (w_wet a : Nat)) < qL a 21 (w_wet a : Nat) := of_decide_eq_true (m3 cm)
          rw [if_pos yy] at e6
          obtain ⟨h6, e7, q6, f6⟩ := good_e (h := h5) (v := (w_wet a : Nat)) (MS_fm q5.1 H1.1)
          refine ⟨Sum.inr (J (w_wet a : Nat)), h6, ?_, ⟨fun _ => ⟨rfl, qr_tr q5 q6, f6⟩, fun x => absurd cm x⟩⟩
          unfold B_md_wetFeast_20
          simp (disch := first | with_reducible assumption | omega | trivial) only [bn_s1, bd_s1, ei_l1, ei_r1, gI_J, gL_J, gR_J, aI_J, aL_J, sI_J, sL_J, pI_J, pL_J, J_add, J_sub, J_mul, J_neg, J_lt, J_le, J_eq, dv_J, rm_J, if_pos, if_neg, ↓reduceIte, bitJ, shlJ, orJ, j_0, j_1, j_2, j_3, j_4, j_5, j_6, j_7, j_8, j_9, j_10, j_11, j_12, j_13, j_14, j_15, j_16, j_17, j_18, j_19, j_20, j_21, j_22, j_23, j_24, j_25, j_26, j_27, j_28, j_29, j_30, j_31, j_32, j_33, j_34, j_35, j_36, j_37, j_38, j_39, j_40, j_41, j_42, j_43, j_44, j_45, j_46, j_47, j_48, j_49, j_50, j_51, j_52, j_57, j_59, j_63, j_74, j_75, j_93, j_97, j_99, j_100, j_122, j_200, j_255, j_300, j_465, j_496, j_900, j_999, j_1000, j_65536, j_65537, j_99999, j_252645135, j_858993459, j_1431655765, k_0, k_1, k_27, k_32, k_74, k_75, k_100, k_1000, k_65537, rb, cf, e4, rb4, yr20, v20, e5, e6, e7]
        · refine ⟨Sum.inl (), h3, ?_, ⟨fun x => absurd x cm, fun _ => ⟨rfl, q3⟩⟩⟩
          unfold B_md_wetFeast_20
          simp (disch := first | with_reducible assumption | omega | trivial) only [bn_s1, bd_s1, ei_l1, ei_r1, gI_J, gL_J, gR_J, aI_J, aL_J, sI_J, sL_J, pI_J, pL_J, J_add, J_sub, J_mul, J_neg, J_lt, J_le, J_eq, dv_J, rm_J, if_pos, if_neg, ↓reduceIte, bitJ, shlJ, orJ, j_0, j_1, j_2, j_3, j_4, j_5, j_6, j_7, j_8, j_9, j_10, j_11, j_12, j_13, j_14, j_15, j_16, j_17, j_18, j_19, j_20, j_21, j_22, j_23, j_24, j_25, j_26, j_27, j_28, j_29, j_30, j_31, j_32, j_33, j_34, j_35, j_36, j_37, j_38, j_39, j_40, j_41, j_42, j_43, j_44, j_45, j_46, j_47, j_48, j_49, j_50, j_51, j_52, j_57, j_59, j_63, j_74, j_75, j_93, j_97, j_99, j_100, j_122, j_200, j_255, j_300, j_465, j_496, j_900, j_999, j_1000, j_65536, j_65537, j_99999, j_252645135, j_858993459, j_1431655765, k_0, k_1, k_27, k_32, k_74, k_75, k_100, k_1000, k_65537, rb, cf])
    by_cases cm : w_wet a < (qL a 5 0).toNat
    · rw [if_pos cm]
      replace q3 := q3.1 cm
      refine ⟨h3, ?_, qr_tr (q00 h) q3.2.1, q3.2.2⟩
      unfold F_md_wetFeast
      rw [ck_e k]
      simp (disch := first | with_reducible assumption | omega | trivial) only [bn_s1, bd_s1, ei_l1, ei_r1, gI_J, gL_J, gR_J, aI_J, aL_J, sI_J, sL_J, pI_J, pL_J, J_add, J_sub, J_mul, J_neg, J_lt, J_le, J_eq, dv_J, rm_J, if_pos, if_neg, ↓reduceIte, bitJ, shlJ, orJ, j_0, j_1, j_2, j_3, j_4, j_5, j_6, j_7, j_8, j_9, j_10, j_11, j_12, j_13, j_14, j_15, j_16, j_17, j_18, j_19, j_20, j_21, j_22, j_23, j_24, j_25, j_26, j_27, j_28, j_29, j_30, j_31, j_32, j_33, j_34, j_35, j_36, j_37, j_38, j_39, j_40, j_41, j_42, j_43, j_44, j_45, j_46, j_47, j_48, j_49, j_50, j_51, j_52, j_57, j_59, j_63, j_74, j_75, j_93, j_97, j_99, j_100, j_122, j_200, j_255, j_300, j_465, j_496, j_900, j_999, j_1000, j_65536, j_65537, j_99999, j_252645135, j_858993459, j_1431655765, k_0, k_1, k_27, k_32, k_74, k_75, k_100, k_1000, k_65537, gQ_J, e, ne, e3, q3.1]
    · rw [if_neg cm]
      replace q3 := q3.2 cm
      obtain ⟨h4, e4, q4, f4⟩ := good_e (h := h3) (v := -2) (MS_fm q3.2.1 H1.1)
      refine ⟨h4, ?_, qr_tr (q00 h) (qr_tr q3.2 q4), f4⟩
      unfold F_md_wetFeast
      rw [ck_e k]
      simp (disch := first | with_reducible assumption | omega | trivial) only [bn_s1, bd_s1, ei_l1, ei_r1, gI_J, gL_J, gR_J, aI_J, aL_J, sI_J, sL_J, pI_J, pL_J, J_add, J_sub, J_mul, J_neg, J_lt, J_le, J_eq, dv_J, rm_J, if_pos, if_neg, ↓reduceIte, bitJ, shlJ, orJ, j_0, j_1, j_2, j_3, j_4, j_5, j_6, j_7, j_8, j_9, j_10, j_11, j_12, j_13, j_14, j_15, j_16, j_17, j_18, j_19, j_20, j_21, j_22, j_23, j_24, j_25, j_26, j_27, j_28, j_29, j_30, j_31, j_32, j_33, j_34, j_35, j_36, j_37, j_38, j_39, j_40, j_41, j_42, j_43, j_44, j_45, j_46, j_47, j_48, j_49, j_50, j_51, j_52, j_57, j_59, j_63, j_74, j_75, j_93, j_97, j_99, j_100, j_122, j_200, j_255, j_300, j_465, j_496, j_900, j_999, j_1000, j_65536, j_65537, j_99999, j_252645135, j_858993459, j_1431655765, k_0, k_1, k_27, k_32, k_74, k_75, k_100, k_1000, k_65537, gQ_J, e, ne, e3, q3.1, e4]
