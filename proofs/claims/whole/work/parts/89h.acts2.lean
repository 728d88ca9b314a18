/-! drink -/
def a_dri (a : Ab) (d z : Int) : Ab := if inr d (qL a 4 0) ∧ inr z (qL a 1 0) then (if qS a (5 * z + qL a 17 d) < 999 then acx a (upS (qS a) (5 * z + qL a 17 d) (qS a (5 * z + qL a 17 d) + 1)) else sTr a 3) else sTr a 1
def v_dri (a : Ab) (d z : Int) : Int := if inr d (qL a 4 0) ∧ inr z (qL a 1 0) then (if qS a (5 * z + qL a 17 d) < 999 then qS a (5 * z + qL a 17 d) + 1 else -1) else -1
theorem SG_cork {L : Lk} {S : Sk} (HL : LW L) (H : SG L S) {p v : Int} (p0 : 0 ≤ p) (p1 : p < 5 * L 1 0) (hv : 0 ≤ v ∧ v ≤ 999) : SG L (upS S p v) := by
  have b1 := LW_h HL
  obtain ⟨⟨w1, w2, w3, w4, w5, w6⟩, k1, g1⟩ := H
  refine ⟨⟨fun i i0 i1 => ?_, fun i i0 i1 => ?_, fun g g0 g1 => ?_, ?_, ?_, ?_⟩, ?_, fun g g0 g2 => ?_⟩
  · unfold upS
    by_cases e : i = p
    · rw [if_pos e]; exact hv
    · rw [if_neg e]; exact w1 i i0 i1
  · rw [upS_ne (by omega)]; exact w2 i i0 i1
  · rw [upS_ne (by omega)]; exact w3 g g0 g1
  · rw [upS_ne (by omega)]; exact w4
  · rw [upS_ne (by omega)]; exact w5
  · rw [upS_ne (by omega)]; exact w6
  · rw [upS_ne (by omega)]; exact k1
  · rw [upS_ne (by omega)]; exact g1 g g0 g2
theorem dk_b {a : Ab} (HA : AW a) {d z : Int} (hd : inr d (qL a 4 0)) (hz : inr z (qL a 1 0)) : 0 ≤ qL a 17 d ∧ qL a 17 d ≤ 4 ∧ 0 ≤ 5 * z + qL a 17 d ∧ 5 * z + qL a 17 d < 5 * qL a 1 0 := by
  have := LW_ds HA.1 d hd.1 hd.2
  omega
theorem AW_dri {a : Ab} {d z : Int} (HA : AW a) : AW (a_dri a d z) := by
  unfold a_dri
  by_cases c : inr d (qL a 4 0) ∧ inr z (qL a 1 0)
  · rw [if_pos c]
    have k := dk_b HA c.1 c.2
    have b1 := LW_h HA.1
    have w := HA.2.1.1.1 (5 * z + qL a 17 d) (by omega) (by omega)
    by_cases e : qS a (5 * z + qL a 17 d) < 999
    · rw [if_pos e]; exact AW_acx HA (SG_cork HA.1 HA.2.1 k.2.2.1 k.2.2.2 (by omega))
    · rw [if_neg e]; exact AW_w (by omega) HA
  · rw [if_neg c]; exact AW_w (by omega) HA
theorem SR_c {L : Lk} {S : Sk} {h : Hp} {p v : Int} (HL : LW L) (H : SS 44 h) (HS : SR L 44 S h) (p0 : 0 ≤ p) (p1 : p < 25) (hv : -2147483648 ≤ v ∧ v < 2147483648) : SR L 44 (upS S p v) (wA h 45 p v) := by
  have b3 := LW_g HL
  have n : (iA h 45).length = 25 := SS_n0 H
  refine ⟨fun i i0 i1 => ?_, fun g g0 g1 => ?_, ?_, ?_, ?_⟩
  · show ia (wA h 45 p v) 45 i = _
    rw [ia_if p0 i0 (by omega) hv.1 hv.2]
    unfold upS
    by_cases e : i = p
    · rw [if_pos e, if_pos e]
    · rw [if_neg e, if_neg e]; exact HS.1 i i0 i1
  · rw [upS_ne (by omega)]
    show ia (wA h 45 p v) 46 g = _
    rw [ia_wA (by omega)]; exact HS.2.1 g g0 g1
  · rw [upS_ne (by omega)]; exact HS.2.2.1
  · rw [upS_ne (by omega)]; exact HS.2.2.2.1
  · rw [upS_ne (by omega)]; exact HS.2.2.2.2
theorem c_dri {a : Ab} {t : Nat} {h : Hp} {d z : Int} (HA : AW a) (H : CI a t h) (hd : rng d) (hz : rng z) : Ca (F_cs_drink 0 (J d) (J z) h) h (v_dri a d z) (a_dri a d z) t := by
  have k := XS_k (XV_x H.1)
  have b1 := LW_h HA.1
  have b4 := LW_d HA.1
  unfold F_cs_drink v_dri a_dri
  rw [ck_e k, jm1]
  by_cases cd : inr d (qL a 4 0)
  · by_cases cz : inr z (qL a 1 0)
    · have cc : inr d (qL a 4 0) ∧ inr z (qL a 1 0) := ⟨cd, cz⟩
      rw [if_pos cc, if_pos cc]
      have kb := dk_b HA cd cz
      have H1 := CI_w (v := 0) (by omega) H
      have A1 := AW_w (v := 0) (by omega) HA
      have V1 := H1.1
      have R1 := H1.2.1
      have k1 := XS_k (XV_x V1)
      have dk : aI (wF h 0 12 0) 100 (t + 7) (J d) = some (J (qL a 17 d)) := ta_12 HA.1 (XV_ts V1) R1 cd.1 cd.2
      have e5 : z * 5 + qL a 17 d = 5 * z + qL a 17 d := by omega
      have v1 : ia (wF h 0 12 0) 45 (5 * z + qL a 17 d) = qS a (5 * z + qL a 17 d) := H1.2.2.1.1 _ (by omega) (by omega)
      have w := HA.2.1.1.1 (5 * z + qL a 17 d) (by omega) (by omega)
      by_cases e : qS a (5 * z + qL a 17 d) < 999
      · rw [if_pos e, if_pos e]
        have H2 := CI_w (v := 0) (by omega) H1
        have V2 := H2.1
        obtain ⟨h3, e3, f3, H3⟩ := C_kept (AW_w (v := 0) (by omega) A1) H2
        have V3 := H3.1
        have v3 : ia h3 45 (5 * z + qL a 17 d) = qS a (5 * z + qL a 17 d) := H3.2.2.1.1 _ (by omega) (by omega)
        have f4 : Fm 44 47 h3 (wA h3 45 (5 * z + qL a 17 d) (qS a (5 * z + qL a 17 d) + 1)) := fm_wA (by omega) (by omega)
        have S4 := SR_c (v := qS a (5 * z + qL a 17 d) + 1) HA.1 (XV_s44 V3) H3.2.2.1 kb.2.2.1 (by omega) (by omega)
        have H4 := CI_S f4 (by omega) (by omega) H3 S4
        have V4 := H4.1
        have n45 : (iA h3 45).length = 25 := SS_n0 (XV_s44 V3)
        have v4 : ia (wA h3 45 (5 * z + qL a 17 d) (qS a (5 * z + qL a 17 d) + 1)) 45 (5 * z + qL a 17 d) = qS a (5 * z + qL a 17 d) + 1 := ia_same (by omega) (by omega) (by omega) (by omega)
        refine ⟨_, ?_, fm_tr (fm_wF (by omega) (by omega)) (fm_tr (fm_wF (by omega) (by omega)) (fm_tr (fm_wd f3 (by omega) (by omega)) (fm_wd f4 (by omega) (by omega)))), H4⟩
        try simp only [j_0, j_1, j_2, j_3, j_4, j_5, j_6, j_7, j_8, j_9, j_10, j_11, j_12, j_13, j_14, j_15, j_16, j_17, j_18, j_19, j_20, j_21, j_22, j_23, j_24, j_25, j_26, j_27, j_28, j_29, j_30, j_31, j_32, j_33, j_34, j_35, j_36, j_37, j_38, j_39, j_40, j_41, j_42, j_43, j_44, j_45, j_46, j_47, j_48, j_49, j_50, j_51, j_52, j_57, j_59, j_63, j_74, j_75, j_93, j_97, j_99, j_100, j_122, j_200, j_255, j_300, j_465, j_496, j_900, j_999, j_1000, j_65536, j_65537, j_99999, j_252645135, j_858993459, j_1431655765, k_0, k_1, k_27, k_32, k_74, k_75, k_100, k_1000, k_65537]
        simp (disch := first | with_reducible assumption | omega | trivial) only [↓bn_s1, ↓bd_s1, ↓ei_l1, ↓ei_r1, ↓bn_if, ↓ilt_1, ↓ilt_0, ↓ieq_1, ↓ieq_0, bn_s1, bd_s1, ei_l1, ei_r1, J_add, J_sub, J_mul, J_neg, J_lt, J_le, J_eq, dv_J, rm_J, if_pos, if_neg, ↓reduceIte, bitJ, shlJ, orJ, j_0, j_1, j_2, j_3, j_4, j_5, j_6, j_7, j_8, j_9, j_10, j_11, j_12, j_13, j_14, j_15, j_16, j_17, j_18, j_19, j_20, j_21, j_22, j_23, j_24, j_25, j_26, j_27, j_28, j_29, j_30, j_31, j_32, j_33, j_34, j_35, j_36, j_37, j_38, j_39, j_40, j_41, j_42, j_43, j_44, j_45, j_46, j_47, j_48, j_49, j_50, j_51, j_52, j_57, j_59, j_63, j_74, j_75, j_93, j_97, j_99, j_100, j_122, j_200, j_255, j_300, j_465, j_496, j_900, j_999, j_1000, j_65536, j_65537, j_99999, j_252645135, j_858993459, j_1431655765, k_0, k_1, k_27, k_32, k_74, k_75, k_100, k_1000, k_65537, ↓bn_e (n4_0 HA H hd cd), n4_0 HA H hd cd, ↓bn_e (n1_0 HA H hz cz), n1_0 HA H hz cz, ↓bd_e (ref_0 k), ref_0 k, vr_0 V1, ↓vr_0_b V1, vr_2 V1, ↓vr_2_b V1, vr_4 V1, ↓vr_4_b V1, vr_5 V1, ↓vr_5_b V1, vr_6 V1, ↓vr_6_b V1, vr_7 V1, ↓vr_7_b V1, vr_8 V1, ↓vr_8_b V1, vr_9 V1, ↓vr_9_b V1, vr_10 V1, ↓vr_10_b V1, vr_11 V1, ↓vr_11_b V1, vr_3 V1, ↓vr_3_b V1, v0i V1, ↓v0i_b V1, v0p V1, ↓v0p_b V1, trf_12 (XV_ts V1), ↓trf_12_b (XV_ts V1), ↓bn_e (dk), dk, sr44_0 V1, ↓sr44_0_b V1, sr44_1 V1, ↓sr44_1_b V1, s44i V1, ↓s44i_b V1, s44p V1, ↓s44p_b V1, s45a V1, ↓s45a_b V1, s45s V1, ↓s45s_b V1, s46a V1, ↓s46a_b V1, s46s V1, ↓s46s_b V1, e5, v1, ↓bd_e (rby_0 k1), rby_0 k1, vr_0 V2, ↓vr_0_b V2, vr_2 V2, ↓vr_2_b V2, vr_4 V2, ↓vr_4_b V2, vr_5 V2, ↓vr_5_b V2, vr_6 V2, ↓vr_6_b V2, vr_7 V2, ↓vr_7_b V2, vr_8 V2, ↓vr_8_b V2, vr_9 V2, ↓vr_9_b V2, vr_10 V2, ↓vr_10_b V2, vr_11 V2, ↓vr_11_b V2, vr_3 V2, ↓vr_3_b V2, v0i V2, ↓v0i_b V2, v0p V2, ↓v0p_b V2, ↓bn_e (e3), e3, vr_0 V3, ↓vr_0_b V3, vr_2 V3, ↓vr_2_b V3, vr_4 V3, ↓vr_4_b V3, vr_5 V3, ↓vr_5_b V3, vr_6 V3, ↓vr_6_b V3, vr_7 V3, ↓vr_7_b V3, vr_8 V3, ↓vr_8_b V3, vr_9 V3, ↓vr_9_b V3, vr_10 V3, ↓vr_10_b V3, vr_11 V3, ↓vr_11_b V3, vr_3 V3, ↓vr_3_b V3, v0i V3, ↓v0i_b V3, v0p V3, ↓v0p_b V3, sr44_0 V3, ↓sr44_0_b V3, sr44_1 V3, ↓sr44_1_b V3, s44i V3, ↓s44i_b V3, s44p V3, ↓s44p_b V3, s45a V3, ↓s45a_b V3, s45s V3, ↓s45s_b V3, s46a V3, ↓s46a_b V3, s46s V3, ↓s46s_b V3, v3, vr_0 V4, ↓vr_0_b V4, vr_2 V4, ↓vr_2_b V4, vr_4 V4, ↓vr_4_b V4, vr_5 V4, ↓vr_5_b V4, vr_6 V4, ↓vr_6_b V4, vr_7 V4, ↓vr_7_b V4, vr_8 V4, ↓vr_8_b V4, vr_9 V4, ↓vr_9_b V4, vr_10 V4, ↓vr_10_b V4, vr_11 V4, ↓vr_11_b V4, vr_3 V4, ↓vr_3_b V4, v0i V4, ↓v0i_b V4, v0p V4, ↓v0p_b V4, sr44_0 V4, ↓sr44_0_b V4, sr44_1 V4, ↓sr44_1_b V4, s44i V4, ↓s44i_b V4, s44p V4, ↓s44p_b V4, s45a V4, ↓s45a_b V4, s45s V4, ↓s45s_b V4, s46a V4, ↓s46a_b V4, s46s V4, ↓s46s_b V4, v4]
      · rw [if_neg e, if_neg e]
        refine ca_r2 H (x := 0) (by omega) (by omega) ?_
        try simp only [j_0, j_1, j_2, j_3, j_4, j_5, j_6, j_7, j_8, j_9, j_10, j_11, j_12, j_13, j_14, j_15, j_16, j_17, j_18, j_19, j_20, j_21, j_22, j_23, j_24, j_25, j_26, j_27, j_28, j_29, j_30, j_31, j_32, j_33, j_34, j_35, j_36, j_37, j_38, j_39, j_40, j_41, j_42, j_43, j_44, j_45, j_46, j_47, j_48, j_49, j_50, j_51, j_52, j_57, j_59, j_63, j_74, j_75, j_93, j_97, j_99, j_100, j_122, j_200, j_255, j_300, j_465, j_496, j_900, j_999, j_1000, j_65536, j_65537, j_99999, j_252645135, j_858993459, j_1431655765, k_0, k_1, k_27, k_32, k_74, k_75, k_100, k_1000, k_65537]
        simp (disch := first | with_reducible assumption | omega | trivial) only [↓bn_s1, ↓bd_s1, ↓ei_l1, ↓ei_r1, ↓bn_if, ↓ilt_1, ↓ilt_0, ↓ieq_1, ↓ieq_0, bn_s1, bd_s1, ei_l1, ei_r1, J_add, J_sub, J_mul, J_neg, J_lt, J_le, J_eq, dv_J, rm_J, if_pos, if_neg, ↓reduceIte, bitJ, shlJ, orJ, j_0, j_1, j_2, j_3, j_4, j_5, j_6, j_7, j_8, j_9, j_10, j_11, j_12, j_13, j_14, j_15, j_16, j_17, j_18, j_19, j_20, j_21, j_22, j_23, j_24, j_25, j_26, j_27, j_28, j_29, j_30, j_31, j_32, j_33, j_34, j_35, j_36, j_37, j_38, j_39, j_40, j_41, j_42, j_43, j_44, j_45, j_46, j_47, j_48, j_49, j_50, j_51, j_52, j_57, j_59, j_63, j_74, j_75, j_93, j_97, j_99, j_100, j_122, j_200, j_255, j_300, j_465, j_496, j_900, j_999, j_1000, j_65536, j_65537, j_99999, j_252645135, j_858993459, j_1431655765, k_0, k_1, k_27, k_32, k_74, k_75, k_100, k_1000, k_65537, ↓bn_e (n4_0 HA H hd cd), n4_0 HA H hd cd, ↓bn_e (n1_0 HA H hz cz), n1_0 HA H hz cz, ↓bd_e (ref_0 k), ref_0 k, vr_0 V1, ↓vr_0_b V1, vr_2 V1, ↓vr_2_b V1, vr_4 V1, ↓vr_4_b V1, vr_5 V1, ↓vr_5_b V1, vr_6 V1, ↓vr_6_b V1, vr_7 V1, ↓vr_7_b V1, vr_8 V1, ↓vr_8_b V1, vr_9 V1, ↓vr_9_b V1, vr_10 V1, ↓vr_10_b V1, vr_11 V1, ↓vr_11_b V1, vr_3 V1, ↓vr_3_b V1, v0i V1, ↓v0i_b V1, v0p V1, ↓v0p_b V1, trf_12 (XV_ts V1), ↓trf_12_b (XV_ts V1), ↓bn_e (dk), dk, sr44_0 V1, ↓sr44_0_b V1, sr44_1 V1, ↓sr44_1_b V1, s44i V1, ↓s44i_b V1, s44p V1, ↓s44p_b V1, s45a V1, ↓s45a_b V1, s45s V1, ↓s45s_b V1, s46a V1, ↓s46a_b V1, s46s V1, ↓s46s_b V1, e5, v1, ↓bd_e (rby_1 k1), rby_1 k1]
    · have cc : ¬ (inr d (qL a 4 0) ∧ inr z (qL a 1 0)) := fun x => cz x.2
      rw [if_neg cc, if_neg cc]
      refine ca_r H (by omega) ?_
      try simp only [j_0, j_1, j_2, j_3, j_4, j_5, j_6, j_7, j_8, j_9, j_10, j_11, j_12, j_13, j_14, j_15, j_16, j_17, j_18, j_19, j_20, j_21, j_22, j_23, j_24, j_25, j_26, j_27, j_28, j_29, j_30, j_31, j_32, j_33, j_34, j_35, j_36, j_37, j_38, j_39, j_40, j_41, j_42, j_43, j_44, j_45, j_46, j_47, j_48, j_49, j_50, j_51, j_52, j_57, j_59, j_63, j_74, j_75, j_93, j_97, j_99, j_100, j_122, j_200, j_255, j_300, j_465, j_496, j_900, j_999, j_1000, j_65536, j_65537, j_99999, j_252645135, j_858993459, j_1431655765, k_0, k_1, k_27, k_32, k_74, k_75, k_100, k_1000, k_65537]
      simp (disch := first | with_reducible assumption | omega | trivial) only [↓bn_s1, ↓bd_s1, ↓ei_l1, ↓ei_r1, ↓bn_if, ↓ilt_1, ↓ilt_0, ↓ieq_1, ↓ieq_0, bn_s1, bd_s1, ei_l1, ei_r1, J_add, J_sub, J_mul, J_neg, J_lt, J_le, J_eq, dv_J, rm_J, if_pos, if_neg, ↓reduceIte, bitJ, shlJ, orJ, j_0, j_1, j_2, j_3, j_4, j_5, j_6, j_7, j_8, j_9, j_10, j_11, j_12, j_13, j_14, j_15, j_16, j_17, j_18, j_19, j_20, j_21, j_22, j_23, j_24, j_25, j_26, j_27, j_28, j_29, j_30, j_31, j_32, j_33, j_34, j_35, j_36, j_37, j_38, j_39, j_40, j_41, j_42, j_43, j_44, j_45, j_46, j_47, j_48, j_49, j_50, j_51, j_52, j_57, j_59, j_63, j_74, j_75, j_93, j_97, j_99, j_100, j_122, j_200, j_255, j_300, j_465, j_496, j_900, j_999, j_1000, j_65536, j_65537, j_99999, j_252645135, j_858993459, j_1431655765, k_0, k_1, k_27, k_32, k_74, k_75, k_100, k_1000, k_65537, ↓bn_e (n4_0 HA H hd cd), n4_0 HA H hd cd, ↓bn_e (n1_1 HA H hz cz), n1_1 HA H hz cz, ↓bd_e (ref_1 k 0), ref_1 k 0]
  · have cc : ¬ (inr d (qL a 4 0) ∧ inr z (qL a 1 0)) := fun x => cd x.1
    rw [if_neg cc, if_neg cc]
    refine ca_r H (by omega) ?_
    try simp only [j_0, j_1, j_2, j_3, j_4, j_5, j_6, j_7, j_8, j_9, j_10, j_11, j_12, j_13, j_14, j_15, j_16, j_17, j_18, j_19, j_20, j_21, j_22, j_23, j_24, j_25, j_26, j_27, j_28, j_29, j_30, j_31, j_32, j_33, j_34, j_35, j_36, j_37, j_38, j_39, j_40, j_41, j_42, j_43, j_44, j_45, j_46, j_47, j_48, j_49, j_50, j_51, j_52, j_57, j_59, j_63, j_74, j_75, j_93, j_97, j_99, j_100, j_122, j_200, j_255, j_300, j_465, j_496, j_900, j_999, j_1000, j_65536, j_65537, j_99999, j_252645135, j_858993459, j_1431655765, k_0, k_1, k_27, k_32, k_74, k_75, k_100, k_1000, k_65537]
    simp (disch := first | with_reducible assumption | omega | trivial) only [↓bn_s1, ↓bd_s1, ↓ei_l1, ↓ei_r1, ↓bn_if, ↓ilt_1, ↓ilt_0, ↓ieq_1, ↓ieq_0, bn_s1, bd_s1, ei_l1, ei_r1, J_add, J_sub, J_mul, J_neg, J_lt, J_le, J_eq, dv_J, rm_J, if_pos, if_neg, ↓reduceIte, bitJ, shlJ, orJ, j_0, j_1, j_2, j_3, j_4, j_5, j_6, j_7, j_8, j_9, j_10, j_11, j_12, j_13, j_14, j_15, j_16, j_17, j_18, j_19, j_20, j_21, j_22, j_23, j_24, j_25, j_26, j_27, j_28, j_29, j_30, j_31, j_32, j_33, j_34, j_35, j_36, j_37, j_38, j_39, j_40, j_41, j_42, j_43, j_44, j_45, j_46, j_47, j_48, j_49, j_50, j_51, j_52, j_57, j_59, j_63, j_74, j_75, j_93, j_97, j_99, j_100, j_122, j_200, j_255, j_300, j_465, j_496, j_900, j_999, j_1000, j_65536, j_65537, j_99999, j_252645135, j_858993459, j_1431655765, k_0, k_1, k_27, k_32, k_74, k_75, k_100, k_1000, k_65537, ↓bn_e (n4_1 HA H hd cd), n4_1 HA H hd cd, ↓bd_e (ref_1 k 0), ref_1 k 0]
theorem d_dri {a : Ab} {h : Hp} {d z : Int} (HA : AW a) (H : RI a h) (hd : rng d) (hz : rng z) : Da (F_md_drink 88 (J d) (J z) h) h (v_dri a d z) (a_dri a d z) := by
  have kx := MS_k H.1
  have H1 := RI_0 H
  have M1 := H1.1
  have b1 := LW_h HA.1
  have b4 := LW_d HA.1
  have f0 : Fm 88 102 h (wF h 88 0 0) := fm_wF (by omega) (by omega)
  have gr := fun (y : Int) => D_refused (y := y) (MS_k M1)
  unfold F_md_drink v_dri a_dri
  rw [ck_e kx]
  by_cases cd : inr d (qL a 4 0)
  · by_cases cz : inr z (qL a 1 0)
    · have cc : inr d (qL a 4 0) ∧ inr z (qL a 1 0) := ⟨cd, cz⟩
      rw [if_pos cc, if_pos cc]
      have kb := dk_b HA cd cz
      obtain ⟨b, C1⟩ := lk_1 H1 (by omega)
      have ce := cell_e z (qL a 17 d)
      have v1 := H1.2.2.1 (5 * z + qL a 17 d) (by omega) (by omega)
      have w := HA.2.1.1.1 (5 * z + qL a 17 d) (by omega) (by omega)
      by_cases e : qS a (5 * z + qL a 17 d) < 999
      · rw [if_pos e, if_pos e]
        obtain ⟨h2, e2, f2, H2⟩ := D_remembers H1
        have M2 := H2.1
        have v2 : ia h2 90 (5 * z + qL a 17 d) = qS a (5 * z + qL a 17 d) := H2.2.2.1 (5 * z + qL a 17 d) (by omega) (by omega)
        have H3 := RI_w90 (z := 5 * z + qL a 17 d) (v := qS a (5 * z + qL a 17 d) + 1) H2 (by omega) (by omega) (by omega)
        have M3 := H3.1
        have v3 : ia (wA h2 90 (5 * z + qL a 17 d) (qS a (5 * z + qL a 17 d) + 1)) 90 (5 * z + qL a 17 d) = qS a (5 * z + qL a 17 d) + 1 := by
          have n := MS_n15 M2
          exact ia_same (by omega) (by omega) (by omega) (by omega)
        have gg := D_good (y := qS a (5 * z + qL a 17 d) + 1) (MS_k M3)
        refine da_g (fm_tr f0 (fm_tr f2 (fm_wA (by omega) (by omega)))) H3 ?_
        try simp only [j_0, j_1, j_2, j_3, j_4, j_5, j_6, j_7, j_8, j_9, j_10, j_11, j_12, j_13, j_14, j_15, j_16, j_17, j_18, j_19, j_20, j_21, j_22, j_23, j_24, j_25, j_26, j_27, j_28, j_29, j_30, j_31, j_32, j_33, j_34, j_35, j_36, j_37, j_38, j_39, j_40, j_41, j_42, j_43, j_44, j_45, j_46, j_47, j_48, j_49, j_50, j_51, j_52, j_57, j_59, j_63, j_74, j_75, j_93, j_97, j_99, j_100, j_122, j_200, j_255, j_300, j_465, j_496, j_900, j_999, j_1000, j_65536, j_65537, j_99999, j_252645135, j_858993459, j_1431655765, k_0, k_1, k_27, k_32, k_74, k_75, k_100, k_1000, k_65537]
        simp (disch := first | with_reducible assumption | omega | trivial) only [↓bn_s1, ↓bd_s1, ↓ei_l1, ↓ei_r1, ↓bn_if, ↓ilt_1, ↓ilt_0, ↓ieq_1, ↓ieq_0, bn_s1, bd_s1, ei_l1, ei_r1, J_add, J_sub, J_mul, J_neg, J_lt, J_le, J_eq, dv_J, rm_J, if_pos, if_neg, ↓reduceIte, bitJ, shlJ, orJ, j_0, j_1, j_2, j_3, j_4, j_5, j_6, j_7, j_8, j_9, j_10, j_11, j_12, j_13, j_14, j_15, j_16, j_17, j_18, j_19, j_20, j_21, j_22, j_23, j_24, j_25, j_26, j_27, j_28, j_29, j_30, j_31, j_32, j_33, j_34, j_35, j_36, j_37, j_38, j_39, j_40, j_41, j_42, j_43, j_44, j_45, j_46, j_47, j_48, j_49, j_50, j_51, j_52, j_57, j_59, j_63, j_74, j_75, j_93, j_97, j_99, j_100, j_122, j_200, j_255, j_300, j_465, j_496, j_900, j_999, j_1000, j_65536, j_65537, j_99999, j_252645135, j_858993459, j_1431655765, k_0, k_1, k_27, k_32, k_74, k_75, k_100, k_1000, k_65537, ↓bn_e (pI_J kx), pI_J kx, ↓bn_e (im4_1 HA H1 hd cd), im4_1 HA H1 hd cd, ↓bn_e (im1_1 HA H1 hz cz), im1_1 HA H1 hz cz, cl_r C1, ↓cl_r_b C1, cl_q C1, ↓cl_q_b C1, ci_0 C1, ↓ci_0_b C1, ci_1 C1, ↓ci_1_b C1, ci_2 C1, ↓ci_2_b C1, ci_3 C1, ↓ci_3_b C1, ci_4 C1, ↓ci_4_b C1, ci_5 C1, ↓ci_5_b C1, ci_6 C1, ↓ci_6_b C1, ci_7 C1, ↓ci_7_b C1, cr_9 C1, ↓cr_9_b C1, cr_10 C1, ↓cr_10_b C1, cr_11 C1, ↓cr_11_b C1, cr_13 C1, ↓cr_13_b C1, cr_14 C1, ↓cr_14_b C1, cr_15 C1, ↓cr_15_b C1, cr_16 C1, ↓cr_16_b C1, cr_17 C1, ↓cr_17_b C1, cr_18 C1, ↓cr_18_b C1, cr_19 C1, ↓cr_19_b C1, cr_20 C1, ↓cr_20_b C1, cr_21 C1, ↓cr_21_b C1, cr_22 C1, ↓cr_22_b C1, cr_23 C1, ↓cr_23_b C1, cr_24 C1, ↓cr_24_b C1, cr_25 C1, ↓cr_25_b C1, cr_26 C1, ↓cr_26_b C1, ca_9 HA.1 C1, ↓ca_9_b HA.1 C1, ca_10 HA.1 C1, ↓ca_10_b HA.1 C1, ca_11 HA.1 C1, ↓ca_11_b HA.1 C1, ca_13 HA.1 C1, ↓ca_13_b HA.1 C1, ca_14 HA.1 C1, ↓ca_14_b HA.1 C1, ca_15 HA.1 C1, ↓ca_15_b HA.1 C1, ca_16 HA.1 C1, ↓ca_16_b HA.1 C1, ca_17 HA.1 C1, ↓ca_17_b HA.1 C1, ca_18 HA.1 C1, ↓ca_18_b HA.1 C1, ca_19 HA.1 C1, ↓ca_19_b HA.1 C1, ca_20 HA.1 C1, ↓ca_20_b HA.1 C1, ca_21 HA.1 C1, ↓ca_21_b HA.1 C1, ca_22 HA.1 C1, ↓ca_22_b HA.1 C1, ca_23 HA.1 C1, ↓ca_23_b HA.1 C1, ca_24 HA.1 C1, ↓ca_24_b HA.1 C1, ca_25 HA.1 C1, ↓ca_25_b HA.1 C1, ca_26 HA.1 C1, ↓ca_26_b HA.1 C1, m_i C1.1, ↓m_i_b C1.1, m_p C1.1, ↓m_p_b C1.1, m_l C1.1, ↓m_l_b C1.1, m_pl C1.1, ↓m_pl_b C1.1, mr_15 C1.1, ↓mr_15_b C1.1, mr_16 C1.1, ↓mr_16_b C1.1, mr_17 C1.1, ↓mr_17_b C1.1, mr_18 C1.1, ↓mr_18_b C1.1, mr_21 C1.1, ↓mr_21_b C1.1, mr_22 C1.1, ↓mr_22_b C1.1, mr_23 C1.1, ↓mr_23_b C1.1, mr_24 C1.1, ↓mr_24_b C1.1, mr_25 C1.1, ↓mr_25_b C1.1, mr_30 C1.1, ↓mr_30_b C1.1, mr_31 C1.1, ↓mr_31_b C1.1, ↓bn_e (ce), ce, m90a M1, ↓m90a_b M1, m90s M1, ↓m90s_b M1, m91a M1, ↓m91a_b M1, m91s M1, ↓m91s_b M1, m92a M1, ↓m92a_b M1, m92s M1, ↓m92s_b M1, m93a M1, ↓m93a_b M1, m93s M1, ↓m93s_b M1, m94a M1, ↓m94a_b M1, m94s M1, ↓m94s_b M1, m95a M1, ↓m95a_b M1, m95s M1, ↓m95s_b M1, m96a M1, ↓m96a_b M1, m96s M1, ↓m96s_b M1, m97a M1, ↓m97a_b M1, m97s M1, ↓m97s_b M1, m98a M1, ↓m98a_b M1, m98s M1, ↓m98s_b M1, m99a M1, ↓m99a_b M1, m99s M1, ↓m99s_b M1, m100a M1, ↓m100a_b M1, m100s M1, ↓m100s_b M1, v1, ↓bn_e (e2), e2, m_i M2, ↓m_i_b M2, m_p M2, ↓m_p_b M2, m_l M2, ↓m_l_b M2, m_pl M2, ↓m_pl_b M2, mr_15 M2, ↓mr_15_b M2, mr_16 M2, ↓mr_16_b M2, mr_17 M2, ↓mr_17_b M2, mr_18 M2, ↓mr_18_b M2, mr_21 M2, ↓mr_21_b M2, mr_22 M2, ↓mr_22_b M2, mr_23 M2, ↓mr_23_b M2, mr_24 M2, ↓mr_24_b M2, mr_25 M2, ↓mr_25_b M2, mr_30 M2, ↓mr_30_b M2, mr_31 M2, ↓mr_31_b M2, m90a M2, ↓m90a_b M2, m90s M2, ↓m90s_b M2, m91a M2, ↓m91a_b M2, m91s M2, ↓m91s_b M2, m92a M2, ↓m92a_b M2, m92s M2, ↓m92s_b M2, m93a M2, ↓m93a_b M2, m93s M2, ↓m93s_b M2, m94a M2, ↓m94a_b M2, m94s M2, ↓m94s_b M2, m95a M2, ↓m95a_b M2, m95s M2, ↓m95s_b M2, m96a M2, ↓m96a_b M2, m96s M2, ↓m96s_b M2, m97a M2, ↓m97a_b M2, m97s M2, ↓m97s_b M2, m98a M2, ↓m98a_b M2, m98s M2, ↓m98s_b M2, m99a M2, ↓m99a_b M2, m99s M2, ↓m99s_b M2, m100a M2, ↓m100a_b M2, m100s M2, ↓m100s_b M2, v2, m_i M3, ↓m_i_b M3, m_p M3, ↓m_p_b M3, m_l M3, ↓m_l_b M3, m_pl M3, ↓m_pl_b M3, mr_15 M3, ↓mr_15_b M3, mr_16 M3, ↓mr_16_b M3, mr_17 M3, ↓mr_17_b M3, mr_18 M3, ↓mr_18_b M3, mr_21 M3, ↓mr_21_b M3, mr_22 M3, ↓mr_22_b M3, mr_23 M3, ↓mr_23_b M3, mr_24 M3, ↓mr_24_b M3, mr_25 M3, ↓mr_25_b M3, mr_30 M3, ↓mr_30_b M3, mr_31 M3, ↓mr_31_b M3, m90a M3, ↓m90a_b M3, m90s M3, ↓m90s_b M3, m91a M3, ↓m91a_b M3, m91s M3, ↓m91s_b M3, m92a M3, ↓m92a_b M3, m92s M3, ↓m92s_b M3, m93a M3, ↓m93a_b M3, m93s M3, ↓m93s_b M3, m94a M3, ↓m94a_b M3, m94s M3, ↓m94s_b M3, m95a M3, ↓m95a_b M3, m95s M3, ↓m95s_b M3, m96a M3, ↓m96a_b M3, m96s M3, ↓m96s_b M3, m97a M3, ↓m97a_b M3, m97s M3, ↓m97s_b M3, m98a M3, ↓m98a_b M3, m98s M3, ↓m98s_b M3, m99a M3, ↓m99a_b M3, m99s M3, ↓m99s_b M3, m100a M3, ↓m100a_b M3, m100s M3, ↓m100s_b M3, v3, ↓bd_e (gg), gg]
      · rw [if_neg e, if_neg e]
        refine da_r f0 H1 (by omega) (by omega) ?_
        try simp only [j_0, j_1, j_2, j_3, j_4, j_5, j_6, j_7, j_8, j_9, j_10, j_11, j_12, j_13, j_14, j_15, j_16, j_17, j_18, j_19, j_20, j_21, j_22, j_23, j_24, j_25, j_26, j_27, j_28, j_29, j_30, j_31, j_32, j_33, j_34, j_35, j_36, j_37, j_38, j_39, j_40, j_41, j_42, j_43, j_44, j_45, j_46, j_47, j_48, j_49, j_50, j_51, j_52, j_57, j_59, j_63, j_74, j_75, j_93, j_97, j_99, j_100, j_122, j_200, j_255, j_300, j_465, j_496, j_900, j_999, j_1000, j_65536, j_65537, j_99999, j_252645135, j_858993459, j_1431655765, k_0, k_1, k_27, k_32, k_74, k_75, k_100, k_1000, k_65537]
        simp (disch := first | with_reducible assumption | omega | trivial) only [↓bn_s1, ↓bd_s1, ↓ei_l1, ↓ei_r1, ↓bn_if, ↓ilt_1, ↓ilt_0, ↓ieq_1, ↓ieq_0, bn_s1, bd_s1, ei_l1, ei_r1, J_add, J_sub, J_mul, J_neg, J_lt, J_le, J_eq, dv_J, rm_J, if_pos, if_neg, ↓reduceIte, bitJ, shlJ, orJ, j_0, j_1, j_2, j_3, j_4, j_5, j_6, j_7, j_8, j_9, j_10, j_11, j_12, j_13, j_14, j_15, j_16, j_17, j_18, j_19, j_20, j_21, j_22, j_23, j_24, j_25, j_26, j_27, j_28, j_29, j_30, j_31, j_32, j_33, j_34, j_35, j_36, j_37, j_38, j_39, j_40, j_41, j_42, j_43, j_44, j_45, j_46, j_47, j_48, j_49, j_50, j_51, j_52, j_57, j_59, j_63, j_74, j_75, j_93, j_97, j_99, j_100, j_122, j_200, j_255, j_300, j_465, j_496, j_900, j_999, j_1000, j_65536, j_65537, j_99999, j_252645135, j_858993459, j_1431655765, k_0, k_1, k_27, k_32, k_74, k_75, k_100, k_1000, k_65537, ↓bn_e (pI_J kx), pI_J kx, ↓bn_e (im4_1 HA H1 hd cd), im4_1 HA H1 hd cd, ↓bn_e (im1_1 HA H1 hz cz), im1_1 HA H1 hz cz, cl_r C1, ↓cl_r_b C1, cl_q C1, ↓cl_q_b C1, ci_0 C1, ↓ci_0_b C1, ci_1 C1, ↓ci_1_b C1, ci_2 C1, ↓ci_2_b C1, ci_3 C1, ↓ci_3_b C1, ci_4 C1, ↓ci_4_b C1, ci_5 C1, ↓ci_5_b C1, ci_6 C1, ↓ci_6_b C1, ci_7 C1, ↓ci_7_b C1, cr_9 C1, ↓cr_9_b C1, cr_10 C1, ↓cr_10_b C1, cr_11 C1, ↓cr_11_b C1, cr_13 C1, ↓cr_13_b C1, cr_14 C1, ↓cr_14_b C1, cr_15 C1, ↓cr_15_b C1, cr_16 C1, ↓cr_16_b C1, cr_17 C1, ↓cr_17_b C1, cr_18 C1, ↓cr_18_b C1, cr_19 C1, ↓cr_19_b C1, cr_20 C1, ↓cr_20_b C1, cr_21 C1, ↓cr_21_b C1, cr_22 C1, ↓cr_22_b C1, cr_23 C1, ↓cr_23_b C1, cr_24 C1, ↓cr_24_b C1, cr_25 C1, ↓cr_25_b C1, cr_26 C1, ↓cr_26_b C1, ca_9 HA.1 C1, ↓ca_9_b HA.1 C1, ca_10 HA.1 C1, ↓ca_10_b HA.1 C1, ca_11 HA.1 C1, ↓ca_11_b HA.1 C1, ca_13 HA.1 C1, ↓ca_13_b HA.1 C1, ca_14 HA.1 C1, ↓ca_14_b HA.1 C1, ca_15 HA.1 C1, ↓ca_15_b HA.1 C1, ca_16 HA.1 C1, ↓ca_16_b HA.1 C1, ca_17 HA.1 C1, ↓ca_17_b HA.1 C1, ca_18 HA.1 C1, ↓ca_18_b HA.1 C1, ca_19 HA.1 C1, ↓ca_19_b HA.1 C1, ca_20 HA.1 C1, ↓ca_20_b HA.1 C1, ca_21 HA.1 C1, ↓ca_21_b HA.1 C1, ca_22 HA.1 C1, ↓ca_22_b HA.1 C1, ca_23 HA.1 C1, ↓ca_23_b HA.1 C1, ca_24 HA.1 C1, ↓ca_24_b HA.1 C1, ca_25 HA.1 C1, ↓ca_25_b HA.1 C1, ca_26 HA.1 C1, ↓ca_26_b HA.1 C1, m_i C1.1, ↓m_i_b C1.1, m_p C1.1, ↓m_p_b C1.1, m_l C1.1, ↓m_l_b C1.1, m_pl C1.1, ↓m_pl_b C1.1, mr_15 C1.1, ↓mr_15_b C1.1, mr_16 C1.1, ↓mr_16_b C1.1, mr_17 C1.1, ↓mr_17_b C1.1, mr_18 C1.1, ↓mr_18_b C1.1, mr_21 C1.1, ↓mr_21_b C1.1, mr_22 C1.1, ↓mr_22_b C1.1, mr_23 C1.1, ↓mr_23_b C1.1, mr_24 C1.1, ↓mr_24_b C1.1, mr_25 C1.1, ↓mr_25_b C1.1, mr_30 C1.1, ↓mr_30_b C1.1, mr_31 C1.1, ↓mr_31_b C1.1, ↓bn_e (ce), ce, m90a M1, ↓m90a_b M1, m90s M1, ↓m90s_b M1, m91a M1, ↓m91a_b M1, m91s M1, ↓m91s_b M1, m92a M1, ↓m92a_b M1, m92s M1, ↓m92s_b M1, m93a M1, ↓m93a_b M1, m93s M1, ↓m93s_b M1, m94a M1, ↓m94a_b M1, m94s M1, ↓m94s_b M1, m95a M1, ↓m95a_b M1, m95s M1, ↓m95s_b M1, m96a M1, ↓m96a_b M1, m96s M1, ↓m96s_b M1, m97a M1, ↓m97a_b M1, m97s M1, ↓m97s_b M1, m98a M1, ↓m98a_b M1, m98s M1, ↓m98s_b M1, m99a M1, ↓m99a_b M1, m99s M1, ↓m99s_b M1, m100a M1, ↓m100a_b M1, m100s M1, ↓m100s_b M1, v1, ↓bd_e (gr 3), gr 3]
    · have cc : ¬ (inr d (qL a 4 0) ∧ inr z (qL a 1 0)) := fun x => cz x.2
      rw [if_neg cc, if_neg cc]
      refine da_r f0 H1 (by omega) (by omega) ?_
      try simp only [j_0, j_1, j_2, j_3, j_4, j_5, j_6, j_7, j_8, j_9, j_10, j_11, j_12, j_13, j_14, j_15, j_16, j_17, j_18, j_19, j_20, j_21, j_22, j_23, j_24, j_25, j_26, j_27, j_28, j_29, j_30, j_31, j_32, j_33, j_34, j_35, j_36, j_37, j_38, j_39, j_40, j_41, j_42, j_43, j_44, j_45, j_46, j_47, j_48, j_49, j_50, j_51, j_52, j_57, j_59, j_63, j_74, j_75, j_93, j_97, j_99, j_100, j_122, j_200, j_255, j_300, j_465, j_496, j_900, j_999, j_1000, j_65536, j_65537, j_99999, j_252645135, j_858993459, j_1431655765, k_0, k_1, k_27, k_32, k_74, k_75, k_100, k_1000, k_65537]
      simp (disch := first | with_reducible assumption | omega | trivial) only [↓bn_s1, ↓bd_s1, ↓ei_l1, ↓ei_r1, ↓bn_if, ↓ilt_1, ↓ilt_0, ↓ieq_1, ↓ieq_0, bn_s1, bd_s1, ei_l1, ei_r1, J_add, J_sub, J_mul, J_neg, J_lt, J_le, J_eq, dv_J, rm_J, if_pos, if_neg, ↓reduceIte, bitJ, shlJ, orJ, j_0, j_1, j_2, j_3, j_4, j_5, j_6, j_7, j_8, j_9, j_10, j_11, j_12, j_13, j_14, j_15, j_16, j_17, j_18, j_19, j_20, j_21, j_22, j_23, j_24, j_25, j_26, j_27, j_28, j_29, j_30, j_31, j_32, j_33, j_34, j_35, j_36, j_37, j_38, j_39, j_40, j_41, j_42, j_43, j_44, j_45, j_46, j_47, j_48, j_49, j_50, j_51, j_52, j_57, j_59, j_63, j_74, j_75, j_93, j_97, j_99, j_100, j_122, j_200, j_255, j_300, j_465, j_496, j_900, j_999, j_1000, j_65536, j_65537, j_99999, j_252645135, j_858993459, j_1431655765, k_0, k_1, k_27, k_32, k_74, k_75, k_100, k_1000, k_65537, ↓bn_e (pI_J kx), pI_J kx, ↓bn_e (im4_1 HA H1 hd cd), im4_1 HA H1 hd cd, ↓bn_e (im1_0 HA H1 hz cz), im1_0 HA H1 hz cz, ↓bd_e (gr 1), gr 1]
  · have cc : ¬ (inr d (qL a 4 0) ∧ inr z (qL a 1 0)) := fun x => cd x.1
    rw [if_neg cc, if_neg cc]
    refine da_r f0 H1 (by omega) (by omega) ?_
    try simp only [j_0, j_1, j_2, j_3, j_4, j_5, j_6, j_7, j_8, j_9, j_10, j_11, j_12, j_13, j_14, j_15, j_16, j_17, j_18, j_19, j_20, j_21, j_22, j_23, j_24, j_25, j_26, j_27, j_28, j_29, j_30, j_31, j_32, j_33, j_34, j_35, j_36, j_37, j_38, j_39, j_40, j_41, j_42, j_43, j_44, j_45, j_46, j_47, j_48, j_49, j_50, j_51, j_52, j_57, j_59, j_63, j_74, j_75, j_93, j_97, j_99, j_100, j_122, j_200, j_255, j_300, j_465, j_496, j_900, j_999, j_1000, j_65536, j_65537, j_99999, j_252645135, j_858993459, j_1431655765, k_0, k_1, k_27, k_32, k_74, k_75, k_100, k_1000, k_65537]
    simp (disch := first | with_reducible assumption | omega | trivial) only [↓bn_s1, ↓bd_s1, ↓ei_l1, ↓ei_r1, ↓bn_if, ↓ilt_1, ↓ilt_0, ↓ieq_1, ↓ieq_0, bn_s1, bd_s1, ei_l1, ei_r1, J_add, J_sub, J_mul, J_neg, J_lt, J_le, J_eq, dv_J, rm_J, if_pos, if_neg, ↓reduceIte, bitJ, shlJ, orJ, j_0, j_1, j_2, j_3, j_4, j_5, j_6, j_7, j_8, j_9, j_10, j_11, j_12, j_13, j_14, j_15, j_16, j_17, j_18, j_19, j_20, j_21, j_22, j_23, j_24, j_25, j_26, j_27, j_28, j_29, j_30, j_31, j_32, j_33, j_34, j_35, j_36, j_37, j_38, j_39, j_40, j_41, j_42, j_43, j_44, j_45, j_46, j_47, j_48, j_49, j_50, j_51, j_52, j_57, j_59, j_63, j_74, j_75, j_93, j_97, j_99, j_100, j_122, j_200, j_255, j_300, j_465, j_496, j_900, j_999, j_1000, j_65536, j_65537, j_99999, j_252645135, j_858993459, j_1431655765, k_0, k_1, k_27, k_32, k_74, k_75, k_100, k_1000, k_65537, ↓bn_e (pI_J kx), pI_J kx, ↓bn_e (im4_0 HA H1 hd cd), im4_0 HA H1 hd cd, ↓bd_e (gr 1), gr 1]
/-! move -/
def a_mov (a : Ab) (g z : Int) : Ab := if inr g (qL a 3 0) ∧ inr z (qL a 1 0) then (if qS a (25 + g) = z then sTr a 5 else acx a (upS (qS a) (25 + g) z)) else sTr a 1
def v_mov (a : Ab) (g z : Int) : Int := if inr g (qL a 3 0) ∧ inr z (qL a 1 0) then (if qS a (25 + g) = z then 0 else 1) else 0
theorem SG_guest {L : Lk} {S : Sk} (HL : LW L) (H : SG L S) {g z : Int} (g0 : 0 ≤ g) (g1 : g < L 3 0) (hz : inr z (L 1 0)) : SG L (upS S (25 + g) z) := by
  have b1 := LW_h HL
  have b3 := LW_g HL
  obtain ⟨⟨w1, w2, w3, w4, w5, w6⟩, k1, gg⟩ := H
  refine ⟨⟨fun i i0 i1 => ?_, fun i i0 i1 => ?_, fun j j0 j1 => ?_, ?_, ?_, ?_⟩, ?_, fun j j0 j1 => ?_⟩
  · rw [upS_ne (by omega)]; exact w1 i i0 i1
  · rw [upS_ne (by omega)]; exact w2 i i0 i1
  · unfold upS
    by_cases e : 25 + j = 25 + g
    · rw [if_pos e]; omega
    · rw [if_neg e]; exact w3 j j0 j1
  · rw [upS_ne (by omega)]; exact w4
  · rw [upS_ne (by omega)]; exact w5
  · rw [upS_ne (by omega)]; exact w6
  · rw [upS_ne (by omega)]; exact k1
  · unfold upS
    by_cases e : 25 + j = 25 + g
    · rw [if_pos e]; exact hz
    · rw [if_neg e]; exact gg j j0 j1
theorem AW_mov {a : Ab} {g z : Int} (HA : AW a) : AW (a_mov a g z) := by
  unfold a_mov
  by_cases c : inr g (qL a 3 0) ∧ inr z (qL a 1 0)
  · rw [if_pos c]
    by_cases e : qS a (25 + g) = z
    · rw [if_pos e]; exact AW_w (by omega) HA
    · rw [if_neg e]; exact AW_acx HA (SG_guest HA.1 HA.2.1 c.1.1 c.1.2 c.2)
  · rw [if_neg c]; exact AW_w (by omega) HA
theorem SR_g {L : Lk} {S : Sk} {h : Hp} {g v : Int} (HL : LW L) (H : SS 44 h) (HS : SR L 44 S h) (g0 : 0 ≤ g) (g1 : g < 3) (hv : -2147483648 ≤ v ∧ v < 2147483648) : SR L 44 (upS S (25 + g) v) (wA h 46 g v) := by
  have b3 := LW_g HL
  have n : (iA h 46).length = 3 := SS_n1 H
  refine ⟨fun i i0 i1 => ?_, fun j j0 j1 => ?_, ?_, ?_, ?_⟩
  · rw [upS_ne (by omega)]
    show ia (wA h 46 g v) 45 i = _
    rw [ia_wA (by omega)]; exact HS.1 i i0 i1
  · show ia (wA h 46 g v) 46 j = _
    rw [ia_if g0 j0 (by omega) hv.1 hv.2]
    unfold upS
    by_cases e : j = g
    · rw [if_pos e, if_pos (by omega)]
    · rw [if_neg e, if_neg (by omega)]; exact HS.2.1 j j0 j1
  · rw [upS_ne (by omega)]; exact HS.2.2.1
  · rw [upS_ne (by omega)]; exact HS.2.2.2.1
  · rw [upS_ne (by omega)]; exact HS.2.2.2.2
theorem c_mov {a : Ab} {t : Nat} {h : Hp} {g z : Int} (HA : AW a) (H : CI a t h) (hg : rng g) (hz : rng z) : Ca (F_cs_move 0 (J g) (J z) h) h (v_mov a g z) (a_mov a g z) t := by
  have k := XS_k (XV_x H.1)
  have b1 := LW_h HA.1
  have b3 := LW_g HA.1
  unfold F_cs_move v_mov a_mov
  rw [ck_e k]
  by_cases cg : inr g (qL a 3 0)
  · by_cases cz : inr z (qL a 1 0)
    · have cc : inr g (qL a 3 0) ∧ inr z (qL a 1 0) := ⟨cg, cz⟩
      rw [if_pos cc, if_pos cc]
      have H1 := CI_w (v := 0) (by omega) H
      have A1 := AW_w (v := 0) (by omega) HA
      have V1 := H1.1
      have k1 := XS_k (XV_x V1)
      have v1 : ia (wF h 0 12 0) 46 g = qS a (25 + g) := H1.2.2.1.2.1 g cg.1 cg.2
      have gs := HA.2.1.2.2 g cg.1 cg.2
      by_cases e : qS a (25 + g) = z
      · rw [if_pos e, if_pos e]
        refine ca_r2 H (x := 0) (by omega) (by omega) ?_
        try simp only [j_0, j_1, j_2, j_3, j_4, j_5, j_6, j_7, j_8, j_9, j_10, j_11, j_12, j_13, j_14, j_15, j_16, j_17, j_18, j_19, j_20, j_21, j_22, j_23, j_24, j_25, j_26, j_27, j_28, j_29, j_30, j_31, j_32, j_33, j_34, j_35, j_36, j_37, j_38, j_39, j_40, j_41, j_42, j_43, j_44, j_45, j_46, j_47, j_48, j_49, j_50, j_51, j_52, j_57, j_59, j_63, j_74, j_75, j_93, j_97, j_99, j_100, j_122, j_200, j_255, j_300, j_465, j_496, j_900, j_999, j_1000, j_65536, j_65537, j_99999, j_252645135, j_858993459, j_1431655765, k_0, k_1, k_27, k_32, k_74, k_75, k_100, k_1000, k_65537]
        simp (disch := first | with_reducible assumption | omega | trivial) only [↓bn_s1, ↓bd_s1, ↓ei_l1, ↓ei_r1, ↓bn_if, ↓ilt_1, ↓ilt_0, ↓ieq_1, ↓ieq_0, bn_s1, bd_s1, ei_l1, ei_r1, J_add, J_sub, J_mul, J_neg, J_lt, J_le, J_eq, dv_J, rm_J, if_pos, if_neg, ↓reduceIte, bitJ, shlJ, orJ, j_0, j_1, j_2, j_3, j_4, j_5, j_6, j_7, j_8, j_9, j_10, j_11, j_12, j_13, j_14, j_15, j_16, j_17, j_18, j_19, j_20, j_21, j_22, j_23, j_24, j_25, j_26, j_27, j_28, j_29, j_30, j_31, j_32, j_33, j_34, j_35, j_36, j_37, j_38, j_39, j_40, j_41, j_42, j_43, j_44, j_45, j_46, j_47, j_48, j_49, j_50, j_51, j_52, j_57, j_59, j_63, j_74, j_75, j_93, j_97, j_99, j_100, j_122, j_200, j_255, j_300, j_465, j_496, j_900, j_999, j_1000, j_65536, j_65537, j_99999, j_252645135, j_858993459, j_1431655765, k_0, k_1, k_27, k_32, k_74, k_75, k_100, k_1000, k_65537, ↓bn_e (n3_0 HA H hg cg), n3_0 HA H hg cg, ↓bn_e (n1_0 HA H hz cz), n1_0 HA H hz cz, ↓bd_e (ref_0 k), ref_0 k, vr_0 V1, ↓vr_0_b V1, vr_2 V1, ↓vr_2_b V1, vr_4 V1, ↓vr_4_b V1, vr_5 V1, ↓vr_5_b V1, vr_6 V1, ↓vr_6_b V1, vr_7 V1, ↓vr_7_b V1, vr_8 V1, ↓vr_8_b V1, vr_9 V1, ↓vr_9_b V1, vr_10 V1, ↓vr_10_b V1, vr_11 V1, ↓vr_11_b V1, vr_3 V1, ↓vr_3_b V1, v0i V1, ↓v0i_b V1, v0p V1, ↓v0p_b V1, sr44_0 V1, ↓sr44_0_b V1, sr44_1 V1, ↓sr44_1_b V1, s44i V1, ↓s44i_b V1, s44p V1, ↓s44p_b V1, s45a V1, ↓s45a_b V1, s45s V1, ↓s45s_b V1, s46a V1, ↓s46a_b V1, s46s V1, ↓s46s_b V1, v1, ↓bd_e (rby_1 k1), rby_1 k1]
      · rw [if_neg e, if_neg e]
        have H2 := CI_w (v := 0) (by omega) H1
        have V2 := H2.1
        obtain ⟨h3, e3, f3, H3⟩ := C_kept (AW_w (v := 0) (by omega) A1) H2
        have V3 := H3.1
        have f4 : Fm 44 47 h3 (wA h3 46 g z) := fm_wA (by omega) (by omega)
        have S4 := SR_g (v := z) HA.1 (XV_s44 V3) H3.2.2.1 cg.1 (by omega) (by omega)
        have H4 := CI_S f4 (by omega) (by omega) H3 S4
        refine ⟨_, ?_, fm_tr (fm_wF (by omega) (by omega)) (fm_tr (fm_wF (by omega) (by omega)) (fm_tr (fm_wd f3 (by omega) (by omega)) (fm_wd f4 (by omega) (by omega)))), H4⟩
        try simp only [j_0, j_1, j_2, j_3, j_4, j_5, j_6, j_7, j_8, j_9, j_10, j_11, j_12, j_13, j_14, j_15, j_16, j_17, j_18, j_19, j_20, j_21, j_22, j_23, j_24, j_25, j_26, j_27, j_28, j_29, j_30, j_31, j_32, j_33, j_34, j_35, j_36, j_37, j_38, j_39, j_40, j_41, j_42, j_43, j_44, j_45, j_46, j_47, j_48, j_49, j_50, j_51, j_52, j_57, j_59, j_63, j_74, j_75, j_93, j_97, j_99, j_100, j_122, j_200, j_255, j_300, j_465, j_496, j_900, j_999, j_1000, j_65536, j_65537, j_99999, j_252645135, j_858993459, j_1431655765, k_0, k_1, k_27, k_32, k_74, k_75, k_100, k_1000, k_65537]
        simp (disch := first | with_reducible assumption | omega | trivial) only [↓bn_s1, ↓bd_s1, ↓ei_l1, ↓ei_r1, ↓bn_if, ↓ilt_1, ↓ilt_0, ↓ieq_1, ↓ieq_0, bn_s1, bd_s1, ei_l1, ei_r1, J_add, J_sub, J_mul, J_neg, J_lt, J_le, J_eq, dv_J, rm_J, if_pos, if_neg, ↓reduceIte, bitJ, shlJ, orJ, j_0, j_1, j_2, j_3, j_4, j_5, j_6, j_7, j_8, j_9, j_10, j_11, j_12, j_13, j_14, j_15, j_16, j_17, j_18, j_19, j_20, j_21, j_22, j_23, j_24, j_25, j_26, j_27, j_28, j_29, j_30, j_31, j_32, j_33, j_34, j_35, j_36, j_37, j_38, j_39, j_40, j_41, j_42, j_43, j_44, j_45, j_46, j_47, j_48, j_49, j_50, j_51, j_52, j_57, j_59, j_63, j_74, j_75, j_93, j_97, j_99, j_100, j_122, j_200, j_255, j_300, j_465, j_496, j_900, j_999, j_1000, j_65536, j_65537, j_99999, j_252645135, j_858993459, j_1431655765, k_0, k_1, k_27, k_32, k_74, k_75, k_100, k_1000, k_65537, ↓bn_e (n3_0 HA H hg cg), n3_0 HA H hg cg, ↓bn_e (n1_0 HA H hz cz), n1_0 HA H hz cz, ↓bd_e (ref_0 k), ref_0 k, vr_0 V1, ↓vr_0_b V1, vr_2 V1, ↓vr_2_b V1, vr_4 V1, ↓vr_4_b V1, vr_5 V1, ↓vr_5_b V1, vr_6 V1, ↓vr_6_b V1, vr_7 V1, ↓vr_7_b V1, vr_8 V1, ↓vr_8_b V1, vr_9 V1, ↓vr_9_b V1, vr_10 V1, ↓vr_10_b V1, vr_11 V1, ↓vr_11_b V1, vr_3 V1, ↓vr_3_b V1, v0i V1, ↓v0i_b V1, v0p V1, ↓v0p_b V1, sr44_0 V1, ↓sr44_0_b V1, sr44_1 V1, ↓sr44_1_b V1, s44i V1, ↓s44i_b V1, s44p V1, ↓s44p_b V1, s45a V1, ↓s45a_b V1, s45s V1, ↓s45s_b V1, s46a V1, ↓s46a_b V1, s46s V1, ↓s46s_b V1, v1, ↓bd_e (rby_0 k1), rby_0 k1, vr_0 V2, ↓vr_0_b V2, vr_2 V2, ↓vr_2_b V2, vr_4 V2, ↓vr_4_b V2, vr_5 V2, ↓vr_5_b V2, vr_6 V2, ↓vr_6_b V2, vr_7 V2, ↓vr_7_b V2, vr_8 V2, ↓vr_8_b V2, vr_9 V2, ↓vr_9_b V2, vr_10 V2, ↓vr_10_b V2, vr_11 V2, ↓vr_11_b V2, vr_3 V2, ↓vr_3_b V2, v0i V2, ↓v0i_b V2, v0p V2, ↓v0p_b V2, ↓bn_e (e3), e3, vr_0 V3, ↓vr_0_b V3, vr_2 V3, ↓vr_2_b V3, vr_4 V3, ↓vr_4_b V3, vr_5 V3, ↓vr_5_b V3, vr_6 V3, ↓vr_6_b V3, vr_7 V3, ↓vr_7_b V3, vr_8 V3, ↓vr_8_b V3, vr_9 V3, ↓vr_9_b V3, vr_10 V3, ↓vr_10_b V3, vr_11 V3, ↓vr_11_b V3, vr_3 V3, ↓vr_3_b V3, v0i V3, ↓v0i_b V3, v0p V3, ↓v0p_b V3, sr44_0 V3, ↓sr44_0_b V3, sr44_1 V3, ↓sr44_1_b V3, s44i V3, ↓s44i_b V3, s44p V3, ↓s44p_b V3, s45a V3, ↓s45a_b V3, s45s V3, ↓s45s_b V3, s46a V3, ↓s46a_b V3, s46s V3, ↓s46s_b V3]
    · have cc : ¬ (inr g (qL a 3 0) ∧ inr z (qL a 1 0)) := fun x => cz x.2
      rw [if_neg cc, if_neg cc]
      refine ca_r H (by omega) ?_
      try simp only [j_0, j_1, j_2, j_3, j_4, j_5, j_6, j_7, j_8, j_9, j_10, j_11, j_12, j_13, j_14, j_15, j_16, j_17, j_18, j_19, j_20, j_21, j_22, j_23, j_24, j_25, j_26, j_27, j_28, j_29, j_30, j_31, j_32, j_33, j_34, j_35, j_36, j_37, j_38, j_39, j_40, j_41, j_42, j_43, j_44, j_45, j_46, j_47, j_48, j_49, j_50, j_51, j_52, j_57, j_59, j_63, j_74, j_75, j_93, j_97, j_99, j_100, j_122, j_200, j_255, j_300, j_465, j_496, j_900, j_999, j_1000, j_65536, j_65537, j_99999, j_252645135, j_858993459, j_1431655765, k_0, k_1, k_27, k_32, k_74, k_75, k_100, k_1000, k_65537]
      simp (disch := first | with_reducible assumption | omega | trivial) only [↓bn_s1, ↓bd_s1, ↓ei_l1, ↓ei_r1, ↓bn_if, ↓ilt_1, ↓ilt_0, ↓ieq_1, ↓ieq_0, bn_s1, bd_s1, ei_l1, ei_r1, J_add, J_sub, J_mul, J_neg, J_lt, J_le, J_eq, dv_J, rm_J, if_pos, if_neg, ↓reduceIte, bitJ, shlJ, orJ, j_0, j_1, j_2, j_3, j_4, j_5, j_6, j_7, j_8, j_9, j_10, j_11, j_12, j_13, j_14, j_15, j_16, j_17, j_18, j_19, j_20, j_21, j_22, j_23, j_24, j_25, j_26, j_27, j_28, j_29, j_30, j_31, j_32, j_33, j_34, j_35, j_36, j_37, j_38, j_39, j_40, j_41, j_42, j_43, j_44, j_45, j_46, j_47, j_48, j_49, j_50, j_51, j_52, j_57, j_59, j_63, j_74, j_75, j_93, j_97, j_99, j_100, j_122, j_200, j_255, j_300, j_465, j_496, j_900, j_999, j_1000, j_65536, j_65537, j_99999, j_252645135, j_858993459, j_1431655765, k_0, k_1, k_27, k_32, k_74, k_75, k_100, k_1000, k_65537, ↓bn_e (n3_0 HA H hg cg), n3_0 HA H hg cg, ↓bn_e (n1_1 HA H hz cz), n1_1 HA H hz cz, ↓bd_e (ref_1 k 0), ref_1 k 0]
  · have cc : ¬ (inr g (qL a 3 0) ∧ inr z (qL a 1 0)) := fun x => cg x.1
    rw [if_neg cc, if_neg cc]
    refine ca_r H (by omega) ?_
    try simp only [j_0, j_1, j_2, j_3, j_4, j_5, j_6, j_7, j_8, j_9, j_10, j_11, j_12, j_13, j_14, j_15, j_16, j_17, j_18, j_19, j_20, j_21, j_22, j_23, j_24, j_25, j_26, j_27, j_28, j_29, j_30, j_31, j_32, j_33, j_34, j_35, j_36, j_37, j_38, j_39, j_40, j_41, j_42, j_43, j_44, j_45, j_46, j_47, j_48, j_49, j_50, j_51, j_52, j_57, j_59, j_63, j_74, j_75, j_93, j_97, j_99, j_100, j_122, j_200, j_255, j_300, j_465, j_496, j_900, j_999, j_1000, j_65536, j_65537, j_99999, j_252645135, j_858993459, j_1431655765, k_0, k_1, k_27, k_32, k_74, k_75, k_100, k_1000, k_65537]
    simp (disch := first | with_reducible assumption | omega | trivial) only [↓bn_s1, ↓bd_s1, ↓ei_l1, ↓ei_r1, ↓bn_if, ↓ilt_1, ↓ilt_0, ↓ieq_1, ↓ieq_0, bn_s1, bd_s1, ei_l1, ei_r1, J_add, J_sub, J_mul, J_neg, J_lt, J_le, J_eq, dv_J, rm_J, if_pos, if_neg, ↓reduceIte, bitJ, shlJ, orJ, j_0, j_1, j_2, j_3, j_4, j_5, j_6, j_7, j_8, j_9, j_10, j_11, j_12, j_13, j_14, j_15, j_16, j_17, j_18, j_19, j_20, j_21, j_22, j_23, j_24, j_25, j_26, j_27, j_28, j_29, j_30, j_31, j_32, j_33, j_34, j_35, j_36, j_37, j_38, j_39, j_40, j_41, j_42, j_43, j_44, j_45, j_46, j_47, j_48, j_49, j_50, j_51, j_52, j_57, j_59, j_63, j_74, j_75, j_93, j_97, j_99, j_100, j_122, j_200, j_255, j_300, j_465, j_496, j_900, j_999, j_1000, j_65536, j_65537, j_99999, j_252645135, j_858993459, j_1431655765, k_0, k_1, k_27, k_32, k_74, k_75, k_100, k_1000, k_65537, ↓bn_e (n3_1 HA H hg cg), n3_1 HA H hg cg, ↓bd_e (ref_1 k 0), ref_1 k 0]
theorem d_mov {a : Ab} {h : Hp} {g z : Int} (HA : AW a) (H : RI a h) (hg : rng g) (hz : rng z) : Da (F_md_move 88 (J g) (J z) h) h (v_mov a g z) (a_mov a g z) := by
  have kx := MS_k H.1
  have H1 := RI_0 H
  have M1 := H1.1
  have b1 := LW_h HA.1
  have b3 := LW_g HA.1
  have f0 : Fm 88 102 h (wF h 88 0 0) := fm_wF (by omega) (by omega)
  have gr := fun (y : Int) => D_denied (y := y) (MS_k M1)
  unfold F_md_move v_mov a_mov
  rw [ck_e kx]
  by_cases cg : inr g (qL a 3 0)
  · by_cases cz : inr z (qL a 1 0)
    · have cc : inr g (qL a 3 0) ∧ inr z (qL a 1 0) := ⟨cg, cz⟩
      rw [if_pos cc, if_pos cc]
      have v1 := H1.2.2.1 (25 + g) (by omega) (by omega)
      have gs := HA.2.1.2.2 g cg.1 cg.2
      by_cases e : qS a (25 + g) = z
      · rw [if_pos e, if_pos e]
        refine da_r f0 H1 (by omega) (by omega) ?_
        try simp only [j_0, j_1, j_2, j_3, j_4, j_5, j_6, j_7, j_8, j_9, j_10, j_11, j_12, j_13, j_14, j_15, j_16, j_17, j_18, j_19, j_20, j_21, j_22, j_23, j_24, j_25, j_26, j_27, j_28, j_29, j_30, j_31, j_32, j_33, j_34, j_35, j_36, j_37, j_38, j_39, j_40, j_41, j_42, j_43, j_44, j_45, j_46, j_47, j_48, j_49, j_50, j_51, j_52, j_57, j_59, j_63, j_74, j_75, j_93, j_97, j_99, j_100, j_122, j_200, j_255, j_300, j_465, j_496, j_900, j_999, j_1000, j_65536, j_65537, j_99999, j_252645135, j_858993459, j_1431655765, k_0, k_1, k_27, k_32, k_74, k_75, k_100, k_1000, k_65537]
        simp (disch := first | with_reducible assumption | omega | trivial) only [↓bn_s1, ↓bd_s1, ↓ei_l1, ↓ei_r1, ↓bn_if, ↓ilt_1, ↓ilt_0, ↓ieq_1, ↓ieq_0, bn_s1, bd_s1, ei_l1, ei_r1, J_add, J_sub, J_mul, J_neg, J_lt, J_le, J_eq, dv_J, rm_J, if_pos, if_neg, ↓reduceIte, bitJ, shlJ, orJ, j_0, j_1, j_2, j_3, j_4, j_5, j_6, j_7, j_8, j_9, j_10, j_11, j_12, j_13, j_14, j_15, j_16, j_17, j_18, j_19, j_20, j_21, j_22, j_23, j_24, j_25, j_26, j_27, j_28, j_29, j_30, j_31, j_32, j_33, j_34, j_35, j_36, j_37, j_38, j_39, j_40, j_41, j_42, j_43, j_44, j_45, j_46, j_47, j_48, j_49, j_50, j_51, j_52, j_57, j_59, j_63, j_74, j_75, j_93, j_97, j_99, j_100, j_122, j_200, j_255, j_300, j_465, j_496, j_900, j_999, j_1000, j_65536, j_65537, j_99999, j_252645135, j_858993459, j_1431655765, k_0, k_1, k_27, k_32, k_74, k_75, k_100, k_1000, k_65537, ↓bn_e (pI_J kx), pI_J kx, ↓bn_e (im3_1 HA H1 hg cg), im3_1 HA H1 hg cg, ↓bn_e (im1_1 HA H1 hz cz), im1_1 HA H1 hz cz, m_i M1, ↓m_i_b M1, m_p M1, ↓m_p_b M1, m_l M1, ↓m_l_b M1, m_pl M1, ↓m_pl_b M1, mr_15 M1, ↓mr_15_b M1, mr_16 M1, ↓mr_16_b M1, mr_17 M1, ↓mr_17_b M1, mr_18 M1, ↓mr_18_b M1, mr_21 M1, ↓mr_21_b M1, mr_22 M1, ↓mr_22_b M1, mr_23 M1, ↓mr_23_b M1, mr_24 M1, ↓mr_24_b M1, mr_25 M1, ↓mr_25_b M1, mr_30 M1, ↓mr_30_b M1, mr_31 M1, ↓mr_31_b M1, m90a M1, ↓m90a_b M1, m90s M1, ↓m90s_b M1, m91a M1, ↓m91a_b M1, m91s M1, ↓m91s_b M1, m92a M1, ↓m92a_b M1, m92s M1, ↓m92s_b M1, m93a M1, ↓m93a_b M1, m93s M1, ↓m93s_b M1, m94a M1, ↓m94a_b M1, m94s M1, ↓m94s_b M1, m95a M1, ↓m95a_b M1, m95s M1, ↓m95s_b M1, m96a M1, ↓m96a_b M1, m96s M1, ↓m96s_b M1, m97a M1, ↓m97a_b M1, m97s M1, ↓m97s_b M1, m98a M1, ↓m98a_b M1, m98s M1, ↓m98s_b M1, m99a M1, ↓m99a_b M1, m99s M1, ↓m99s_b M1, m100a M1, ↓m100a_b M1, m100s M1, ↓m100s_b M1, v1, ↓bd_e (gr 5), gr 5, rv_0]
      · rw [if_neg e, if_neg e]
        obtain ⟨h2, e2, f2, H2⟩ := D_remembers H1
        have M2 := H2.1
        have H3 := RI_w90 (z := 25 + g) (v := z) H2 (by omega) (by omega) (by omega)
        have gg := D_granted (MS_k H3.1)
        refine da_g (fm_tr f0 (fm_tr f2 (fm_wA (by omega) (by omega)))) H3 ?_
        try simp only [j_0, j_1, j_2, j_3, j_4, j_5, j_6, j_7, j_8, j_9, j_10, j_11, j_12, j_13, j_14, j_15, j_16, j_17, j_18, j_19, j_20, j_21, j_22, j_23, j_24, j_25, j_26, j_27, j_28, j_29, j_30, j_31, j_32, j_33, j_34, j_35, j_36, j_37, j_38, j_39, j_40, j_41, j_42, j_43, j_44, j_45, j_46, j_47, j_48, j_49, j_50, j_51, j_52, j_57, j_59, j_63, j_74, j_75, j_93, j_97, j_99, j_100, j_122, j_200, j_255, j_300, j_465, j_496, j_900, j_999, j_1000, j_65536, j_65537, j_99999, j_252645135, j_858993459, j_1431655765, k_0, k_1, k_27, k_32, k_74, k_75, k_100, k_1000, k_65537]
        simp (disch := first | with_reducible assumption | omega | trivial) only [↓bn_s1, ↓bd_s1, ↓ei_l1, ↓ei_r1, ↓bn_if, ↓ilt_1, ↓ilt_0, ↓ieq_1, ↓ieq_0, bn_s1, bd_s1, ei_l1, ei_r1, J_add, J_sub, J_mul, J_neg, J_lt, J_le, J_eq, dv_J, rm_J, if_pos, if_neg, ↓reduceIte, bitJ, shlJ, orJ, j_0, j_1, j_2, j_3, j_4, j_5, j_6, j_7, j_8, j_9, j_10, j_11, j_12, j_13, j_14, j_15, j_16, j_17, j_18, j_19, j_20, j_21, j_22, j_23, j_24, j_25, j_26, j_27, j_28, j_29, j_30, j_31, j_32, j_33, j_34, j_35, j_36, j_37, j_38, j_39, j_40, j_41, j_42, j_43, j_44, j_45, j_46, j_47, j_48, j_49, j_50, j_51, j_52, j_57, j_59, j_63, j_74, j_75, j_93, j_97, j_99, j_100, j_122, j_200, j_255, j_300, j_465, j_496, j_900, j_999, j_1000, j_65536, j_65537, j_99999, j_252645135, j_858993459, j_1431655765, k_0, k_1, k_27, k_32, k_74, k_75, k_100, k_1000, k_65537, ↓bn_e (pI_J kx), pI_J kx, ↓bn_e (im3_1 HA H1 hg cg), im3_1 HA H1 hg cg, ↓bn_e (im1_1 HA H1 hz cz), im1_1 HA H1 hz cz, m_i M1, ↓m_i_b M1, m_p M1, ↓m_p_b M1, m_l M1, ↓m_l_b M1, m_pl M1, ↓m_pl_b M1, mr_15 M1, ↓mr_15_b M1, mr_16 M1, ↓mr_16_b M1, mr_17 M1, ↓mr_17_b M1, mr_18 M1, ↓mr_18_b M1, mr_21 M1, ↓mr_21_b M1, mr_22 M1, ↓mr_22_b M1, mr_23 M1, ↓mr_23_b M1, mr_24 M1, ↓mr_24_b M1, mr_25 M1, ↓mr_25_b M1, mr_30 M1, ↓mr_30_b M1, mr_31 M1, ↓mr_31_b M1, m90a M1, ↓m90a_b M1, m90s M1, ↓m90s_b M1, m91a M1, ↓m91a_b M1, m91s M1, ↓m91s_b M1, m92a M1, ↓m92a_b M1, m92s M1, ↓m92s_b M1, m93a M1, ↓m93a_b M1, m93s M1, ↓m93s_b M1, m94a M1, ↓m94a_b M1, m94s M1, ↓m94s_b M1, m95a M1, ↓m95a_b M1, m95s M1, ↓m95s_b M1, m96a M1, ↓m96a_b M1, m96s M1, ↓m96s_b M1, m97a M1, ↓m97a_b M1, m97s M1, ↓m97s_b M1, m98a M1, ↓m98a_b M1, m98s M1, ↓m98s_b M1, m99a M1, ↓m99a_b M1, m99s M1, ↓m99s_b M1, m100a M1, ↓m100a_b M1, m100s M1, ↓m100s_b M1, v1, ↓bn_e (e2), e2, m_i M2, ↓m_i_b M2, m_p M2, ↓m_p_b M2, m_l M2, ↓m_l_b M2, m_pl M2, ↓m_pl_b M2, mr_15 M2, ↓mr_15_b M2, mr_16 M2, ↓mr_16_b M2, mr_17 M2, ↓mr_17_b M2, mr_18 M2, ↓mr_18_b M2, mr_21 M2, ↓mr_21_b M2, mr_22 M2, ↓mr_22_b M2, mr_23 M2, ↓mr_23_b M2, mr_24 M2, ↓mr_24_b M2, mr_25 M2, ↓mr_25_b M2, mr_30 M2, ↓mr_30_b M2, mr_31 M2, ↓mr_31_b M2, m90a M2, ↓m90a_b M2, m90s M2, ↓m90s_b M2, m91a M2, ↓m91a_b M2, m91s M2, ↓m91s_b M2, m92a M2, ↓m92a_b M2, m92s M2, ↓m92s_b M2, m93a M2, ↓m93a_b M2, m93s M2, ↓m93s_b M2, m94a M2, ↓m94a_b M2, m94s M2, ↓m94s_b M2, m95a M2, ↓m95a_b M2, m95s M2, ↓m95s_b M2, m96a M2, ↓m96a_b M2, m96s M2, ↓m96s_b M2, m97a M2, ↓m97a_b M2, m97s M2, ↓m97s_b M2, m98a M2, ↓m98a_b M2, m98s M2, ↓m98s_b M2, m99a M2, ↓m99a_b M2, m99s M2, ↓m99s_b M2, m100a M2, ↓m100a_b M2, m100s M2, ↓m100s_b M2, ↓bd_e (gg), gg, rv_1]
    · have cc : ¬ (inr g (qL a 3 0) ∧ inr z (qL a 1 0)) := fun x => cz x.2
      rw [if_neg cc, if_neg cc]
      refine da_r f0 H1 (by omega) (by omega) ?_
      try simp only [j_0, j_1, j_2, j_3, j_4, j_5, j_6, j_7, j_8, j_9, j_10, j_11, j_12, j_13, j_14, j_15, j_16, j_17, j_18, j_19, j_20, j_21, j_22, j_23, j_24, j_25, j_26, j_27, j_28, j_29, j_30, j_31, j_32, j_33, j_34, j_35, j_36, j_37, j_38, j_39, j_40, j_41, j_42, j_43, j_44, j_45, j_46, j_47, j_48, j_49, j_50, j_51, j_52, j_57, j_59, j_63, j_74, j_75, j_93, j_97, j_99, j_100, j_122, j_200, j_255, j_300, j_465, j_496, j_900, j_999, j_1000, j_65536, j_65537, j_99999, j_252645135, j_858993459, j_1431655765, k_0, k_1, k_27, k_32, k_74, k_75, k_100, k_1000, k_65537]
      simp (disch := first | with_reducible assumption | omega | trivial) only [↓bn_s1, ↓bd_s1, ↓ei_l1, ↓ei_r1, ↓bn_if, ↓ilt_1, ↓ilt_0, ↓ieq_1, ↓ieq_0, bn_s1, bd_s1, ei_l1, ei_r1, J_add, J_sub, J_mul, J_neg, J_lt, J_le, J_eq, dv_J, rm_J, if_pos, if_neg, ↓reduceIte, bitJ, shlJ, orJ, j_0, j_1, j_2, j_3, j_4, j_5, j_6, j_7, j_8, j_9, j_10, j_11, j_12, j_13, j_14, j_15, j_16, j_17, j_18, j_19, j_20, j_21, j_22, j_23, j_24, j_25, j_26, j_27, j_28, j_29, j_30, j_31, j_32, j_33, j_34, j_35, j_36, j_37, j_38, j_39, j_40, j_41, j_42, j_43, j_44, j_45, j_46, j_47, j_48, j_49, j_50, j_51, j_52, j_57, j_59, j_63, j_74, j_75, j_93, j_97, j_99, j_100, j_122, j_200, j_255, j_300, j_465, j_496, j_900, j_999, j_1000, j_65536, j_65537, j_99999, j_252645135, j_858993459, j_1431655765, k_0, k_1, k_27, k_32, k_74, k_75, k_100, k_1000, k_65537, ↓bn_e (pI_J kx), pI_J kx, ↓bn_e (im3_1 HA H1 hg cg), im3_1 HA H1 hg cg, ↓bn_e (im1_0 HA H1 hz cz), im1_0 HA H1 hz cz, ↓bd_e (gr 1), gr 1, rv_0]
  · have cc : ¬ (inr g (qL a 3 0) ∧ inr z (qL a 1 0)) := fun x => cg x.1
    rw [if_neg cc, if_neg cc]
    refine da_r f0 H1 (by omega) (by omega) ?_
    try simp only [j_0, j_1, j_2, j_3, j_4, j_5, j_6, j_7, j_8, j_9, j_10, j_11, j_12, j_13, j_14, j_15, j_16, j_17, j_18, j_19, j_20, j_21, j_22, j_23, j_24, j_25, j_26, j_27, j_28, j_29, j_30, j_31, j_32, j_33, j_34, j_35, j_36, j_37, j_38, j_39, j_40, j_41, j_42, j_43, j_44, j_45, j_46, j_47, j_48, j_49, j_50, j_51, j_52, j_57, j_59, j_63, j_74, j_75, j_93, j_97, j_99, j_100, j_122, j_200, j_255, j_300, j_465, j_496, j_900, j_999, j_1000, j_65536, j_65537, j_99999, j_252645135, j_858993459, j_1431655765, k_0, k_1, k_27, k_32, k_74, k_75, k_100, k_1000, k_65537]
    simp (disch := first | with_reducible assumption | omega | trivial) only [↓bn_s1, ↓bd_s1, ↓ei_l1, ↓ei_r1, ↓bn_if, ↓ilt_1, ↓ilt_0, ↓ieq_1, ↓ieq_0, bn_s1, bd_s1, ei_l1, ei_r1, J_add, J_sub, J_mul, J_neg, J_lt, J_le, J_eq, dv_J, rm_J, if_pos, if_neg, ↓reduceIte, bitJ, shlJ, orJ, j_0, j_1, j_2, j_3, j_4, j_5, j_6, j_7, j_8, j_9, j_10, j_11, j_12, j_13, j_14, j_15, j_16, j_17, j_18, j_19, j_20, j_21, j_22, j_23, j_24, j_25, j_26, j_27, j_28, j_29, j_30, j_31, j_32, j_33, j_34, j_35, j_36, j_37, j_38, j_39, j_40, j_41, j_42, j_43, j_44, j_45, j_46, j_47, j_48, j_49, j_50, j_51, j_52, j_57, j_59, j_63, j_74, j_75, j_93, j_97, j_99, j_100, j_122, j_200, j_255, j_300, j_465, j_496, j_900, j_999, j_1000, j_65536, j_65537, j_99999, j_252645135, j_858993459, j_1431655765, k_0, k_1, k_27, k_32, k_74, k_75, k_100, k_1000, k_65537, ↓bn_e (pI_J kx), pI_J kx, ↓bn_e (im3_0 HA H1 hg cg), im3_0 HA H1 hg cg, ↓bd_e (gr 1), gr 1, rv_0]
