/-! the class's Planner: small steps -/
theorem C_liftOfOld {h : Hp} {k g : Int} (HC : CR h) (k0 : 0 ≤ k) (k1 : k ≤ 4) (g0 : 0 ≤ g) (g1 : g < 4) : F_st_liftOfOld (J k) (J g) h = some (J (lod k g)) := by
  unfold F_st_liftOfOld lod
  by_cases c : k = 0
  · rw [if_pos c]
    have e := lif_e HC (z := 0) (by omega) (by omega)
    have e3 : lfk 0 = 3 := rfl
    rw [e3] at e
    have mx := max_e (a := 0) (b := 3 - g) (by omega) (by omega) (by omega) (by omega)
    try simp only [j_0, j_1, j_2, j_3, j_4, j_5, j_6, j_7, j_8, j_9, j_10, j_11, j_12, j_13, j_14, j_15, j_16, j_17, j_18, j_19, j_20, j_21, j_22, j_23, j_24, j_25, j_26, j_27, j_28, j_29, j_30, j_31, j_32, j_33, j_34, j_35, j_36, j_37, j_38, j_39, j_40, j_41, j_42, j_43, j_44, j_45, j_46, j_47, j_48, j_49, j_50, j_51, j_52, j_57, j_59, j_63, j_74, j_75, j_93, j_97, j_99, j_100, j_122, j_200, j_255, j_300, j_465, j_496, j_900, j_999, j_1000, j_65536, j_65537, j_99999, j_252645135, j_858993459, j_1431655765, k_0, k_1, k_27, k_32, k_74, k_75, k_100, k_1000, k_65537]
    simp (disch := first | with_reducible assumption | omega | trivial) only [↓bn_s1, ↓bd_s1, ↓ei_l1, ↓ei_r1, ↓bn_if, ↓ilt_1, ↓ilt_0, ↓ieq_1, ↓ieq_0, bn_s1, bd_s1, ei_l1, ei_r1, J_add, J_sub, J_mul, J_neg, J_lt, J_le, J_eq, dv_J, rm_J, if_pos, if_neg, ↓reduceIte, bitJ, shlJ, orJ, j_0, j_1, j_2, j_3, j_4, j_5, j_6, j_7, j_8, j_9, j_10, j_11, j_12, j_13, j_14, j_15, j_16, j_17, j_18, j_19, j_20, j_21, j_22, j_23, j_24, j_25, j_26, j_27, j_28, j_29, j_30, j_31, j_32, j_33, j_34, j_35, j_36, j_37, j_38, j_39, j_40, j_41, j_42, j_43, j_44, j_45, j_46, j_47, j_48, j_49, j_50, j_51, j_52, j_57, j_59, j_63, j_74, j_75, j_93, j_97, j_99, j_100, j_122, j_200, j_255, j_300, j_465, j_496, j_900, j_999, j_1000, j_65536, j_65537, j_99999, j_252645135, j_858993459, j_1431655765, k_0, k_1, k_27, k_32, k_74, k_75, k_100, k_1000, k_65537, ↓bn_e (e), e, ↓bn_e (mx), mx]
  · rw [if_neg c]
    have e := lok_e HC k0 k1
    try simp only [j_0, j_1, j_2, j_3, j_4, j_5, j_6, j_7, j_8, j_9, j_10, j_11, j_12, j_13, j_14, j_15, j_16, j_17, j_18, j_19, j_20, j_21, j_22, j_23, j_24, j_25, j_26, j_27, j_28, j_29, j_30, j_31, j_32, j_33, j_34, j_35, j_36, j_37, j_38, j_39, j_40, j_41, j_42, j_43, j_44, j_45, j_46, j_47, j_48, j_49, j_50, j_51, j_52, j_57, j_59, j_63, j_74, j_75, j_93, j_97, j_99, j_100, j_122, j_200, j_255, j_300, j_465, j_496, j_900, j_999, j_1000, j_65536, j_65537, j_99999, j_252645135, j_858993459, j_1431655765, k_0, k_1, k_27, k_32, k_74, k_75, k_100, k_1000, k_65537]
    simp (disch := first | with_reducible assumption | omega | trivial) only [↓bn_s1, ↓bd_s1, ↓ei_l1, ↓ei_r1, ↓bn_if, ↓ilt_1, ↓ilt_0, ↓ieq_1, ↓ieq_0, bn_s1, bd_s1, ei_l1, ei_r1, J_add, J_sub, J_mul, J_neg, J_lt, J_le, J_eq, dv_J, rm_J, if_pos, if_neg, ↓reduceIte, bitJ, shlJ, orJ, j_0, j_1, j_2, j_3, j_4, j_5, j_6, j_7, j_8, j_9, j_10, j_11, j_12, j_13, j_14, j_15, j_16, j_17, j_18, j_19, j_20, j_21, j_22, j_23, j_24, j_25, j_26, j_27, j_28, j_29, j_30, j_31, j_32, j_33, j_34, j_35, j_36, j_37, j_38, j_39, j_40, j_41, j_42, j_43, j_44, j_45, j_46, j_47, j_48, j_49, j_50, j_51, j_52, j_57, j_59, j_63, j_74, j_75, j_93, j_97, j_99, j_100, j_122, j_200, j_255, j_300, j_465, j_496, j_900, j_999, j_1000, j_65536, j_65537, j_99999, j_252645135, j_858993459, j_1431655765, k_0, k_1, k_27, k_32, k_74, k_75, k_100, k_1000, k_65537, ↓bn_e (e), e]
def lbd (l : Int → Int) (k : Nat) : Prop := ∀ i, 0 ≤ i → i < 20 → -1000000 + 200 * k ≤ l i ∧ l i ≤ 600000
def LH (l : Int → Int) (h : Hp) : Prop := ∀ i, 0 ≤ i → i < 20 → ia h 65 i = l i
theorem C_isLacking {t : Nat} {h : Hp} {l : Int → Int} {z k : Nat} (V : XV t h) (X : LH l h) (lb : lbd l k) (hz : z < 5) : F_pl_isLacking 57 (J z) h = some (J (if isl l z = true then 1 else 0)) := by
  obtain ⟨p1, p2, p3⟩ := fsi_p (fun g => decide (0 < l (4 * z + g))) 4
  obtain ⟨w, hw⟩ : ∃ w, w = fsi (fun g => decide (0 < l (4 * (z : Int) + g))) 4 := ⟨_, rfl⟩
  rw [← hw] at p1 p2 p3
  have el : lq (B_pl_isLacking_2 57 (J z) h) FU (J 0) = some (if w < 4 then Sum.inr (J 1) else Sum.inl ()) := by
    refine lq_for (fun i => J i) w (by unfold FU; omega) rfl (fun i hi => ?_) ?_
    · have nn : ¬ 0 < l (4 * (z : Int) + i) := of_decide_eq_false (p2 i hi)
      have e4 : (z : Int) * 4 + i = 4 * z + i := by omega
      have v := X (4 * (z : Int) + i) (by omega) (by omega)
      have b := lb (4 * (z : Int) + i) (by omega) (by omega)
      unfold B_pl_isLacking_2
      try simp only [j_0, j_1, j_2, j_3, j_4, j_5, j_6, j_7, j_8, j_9, j_10, j_11, j_12, j_13, j_14, j_15, j_16, j_17, j_18, j_19, j_20, j_21, j_22, j_23, j_24, j_25, j_26, j_27, j_28, j_29, j_30, j_31, j_32, j_33, j_34, j_35, j_36, j_37, j_38, j_39, j_40, j_41, j_42, j_43, j_44, j_45, j_46, j_47, j_48, j_49, j_50, j_51, j_52, j_57, j_59, j_63, j_74, j_75, j_93, j_97, j_99, j_100, j_122, j_200, j_255, j_300, j_465, j_496, j_900, j_999, j_1000, j_65536, j_65537, j_99999, j_252645135, j_858993459, j_1431655765, k_0, k_1, k_27, k_32, k_74, k_75, k_100, k_1000, k_65537]
      simp (disch := first | with_reducible assumption | omega | trivial) only [↓bn_s1, ↓bd_s1, ↓ei_l1, ↓ei_r1, ↓bn_if, ↓ilt_1, ↓ilt_0, ↓ieq_1, ↓ieq_0, bn_s1, bd_s1, ei_l1, ei_r1, J_add, J_sub, J_mul, J_neg, J_lt, J_le, J_eq, dv_J, rm_J, if_pos, if_neg, ↓reduceIte, bitJ, shlJ, orJ, j_0, j_1, j_2, j_3, j_4, j_5, j_6, j_7, j_8, j_9, j_10, j_11, j_12, j_13, j_14, j_15, j_16, j_17, j_18, j_19, j_20, j_21, j_22, j_23, j_24, j_25, j_26, j_27, j_28, j_29, j_30, j_31, j_32, j_33, j_34, j_35, j_36, j_37, j_38, j_39, j_40, j_41, j_42, j_43, j_44, j_45, j_46, j_47, j_48, j_49, j_50, j_51, j_52, j_57, j_59, j_63, j_74, j_75, j_93, j_97, j_99, j_100, j_122, j_200, j_255, j_300, j_465, j_496, j_900, j_999, j_1000, j_65536, j_65537, j_99999, j_252645135, j_858993459, j_1431655765, k_0, k_1, k_27, k_32, k_74, k_75, k_100, k_1000, k_65537, p_i V, ↓p_i_b V, p_p V, ↓p_p_b V, p_r1 V, ↓p_r1_b V, p_r2 V, ↓p_r2_b V, p_r4 V, ↓p_r4_b V, p_65a V, ↓p_65a_b V, p_65s V, ↓p_65s_b V, p_r5 V, ↓p_r5_b V, p_66a V, ↓p_66a_b V, p_66s V, ↓p_66s_b V, p_r6 V, ↓p_r6_b V, p_67a V, ↓p_67a_b V, p_67s V, ↓p_67s_b V, p_r7 V, ↓p_r7_b V, p_68a V, ↓p_68a_b V, p_68s V, ↓p_68s_b V, p_r8 V, ↓p_r8_b V, p_69a V, ↓p_69a_b V, p_69s V, ↓p_69s_b V, e4, v]
      rfl
    · by_cases cm : w < 4
      · have yy : 0 < l (4 * (z : Int) + w) := of_decide_eq_true (p3 cm)
        have e4 : (z : Int) * 4 + w = 4 * z + w := by omega
        have v := X (4 * (z : Int) + w) (by omega) (by omega)
        have b := lb (4 * (z : Int) + w) (by omega) (by omega)
        rw [if_pos cm]
        unfold B_pl_isLacking_2
        try simp only [j_0, j_1, j_2, j_3, j_4, j_5, j_6, j_7, j_8, j_9, j_10, j_11, j_12, j_13, j_14, j_15, j_16, j_17, j_18, j_19, j_20, j_21, j_22, j_23, j_24, j_25, j_26, j_27, j_28, j_29, j_30, j_31, j_32, j_33, j_34, j_35, j_36, j_37, j_38, j_39, j_40, j_41, j_42, j_43, j_44, j_45, j_46, j_47, j_48, j_49, j_50, j_51, j_52, j_57, j_59, j_63, j_74, j_75, j_93, j_97, j_99, j_100, j_122, j_200, j_255, j_300, j_465, j_496, j_900, j_999, j_1000, j_65536, j_65537, j_99999, j_252645135, j_858993459, j_1431655765, k_0, k_1, k_27, k_32, k_74, k_75, k_100, k_1000, k_65537]
        simp (disch := first | with_reducible assumption | omega | trivial) only [↓bn_s1, ↓bd_s1, ↓ei_l1, ↓ei_r1, ↓bn_if, ↓ilt_1, ↓ilt_0, ↓ieq_1, ↓ieq_0, bn_s1, bd_s1, ei_l1, ei_r1, J_add, J_sub, J_mul, J_neg, J_lt, J_le, J_eq, dv_J, rm_J, if_pos, if_neg, ↓reduceIte, bitJ, shlJ, orJ, j_0, j_1, j_2, j_3, j_4, j_5, j_6, j_7, j_8, j_9, j_10, j_11, j_12, j_13, j_14, j_15, j_16, j_17, j_18, j_19, j_20, j_21, j_22, j_23, j_24, j_25, j_26, j_27, j_28, j_29, j_30, j_31, j_32, j_33, j_34, j_35, j_36, j_37, j_38, j_39, j_40, j_41, j_42, j_43, j_44, j_45, j_46, j_47, j_48, j_49, j_50, j_51, j_52, j_57, j_59, j_63, j_74, j_75, j_93, j_97, j_99, j_100, j_122, j_200, j_255, j_300, j_465, j_496, j_900, j_999, j_1000, j_65536, j_65537, j_99999, j_252645135, j_858993459, j_1431655765, k_0, k_1, k_27, k_32, k_74, k_75, k_100, k_1000, k_65537, p_i V, ↓p_i_b V, p_p V, ↓p_p_b V, p_r1 V, ↓p_r1_b V, p_r2 V, ↓p_r2_b V, p_r4 V, ↓p_r4_b V, p_65a V, ↓p_65a_b V, p_65s V, ↓p_65s_b V, p_r5 V, ↓p_r5_b V, p_66a V, ↓p_66a_b V, p_66s V, ↓p_66s_b V, p_r6 V, ↓p_r6_b V, p_67a V, ↓p_67a_b V, p_67s V, ↓p_67s_b V, p_r7 V, ↓p_r7_b V, p_68a V, ↓p_68a_b V, p_68s V, ↓p_68s_b V, p_r8 V, ↓p_r8_b V, p_69a V, ↓p_69a_b V, p_69s V, ↓p_69s_b V, e4, v]
      · rw [if_neg cm]
        unfold B_pl_isLacking_2
        try simp only [j_0, j_1, j_2, j_3, j_4, j_5, j_6, j_7, j_8, j_9, j_10, j_11, j_12, j_13, j_14, j_15, j_16, j_17, j_18, j_19, j_20, j_21, j_22, j_23, j_24, j_25, j_26, j_27, j_28, j_29, j_30, j_31, j_32, j_33, j_34, j_35, j_36, j_37, j_38, j_39, j_40, j_41, j_42, j_43, j_44, j_45, j_46, j_47, j_48, j_49, j_50, j_51, j_52, j_57, j_59, j_63, j_74, j_75, j_93, j_97, j_99, j_100, j_122, j_200, j_255, j_300, j_465, j_496, j_900, j_999, j_1000, j_65536, j_65537, j_99999, j_252645135, j_858993459, j_1431655765, k_0, k_1, k_27, k_32, k_74, k_75, k_100, k_1000, k_65537]
        simp (disch := first | with_reducible assumption | omega | trivial) only [↓bn_s1, ↓bd_s1, ↓ei_l1, ↓ei_r1, ↓bn_if, ↓ilt_1, ↓ilt_0, ↓ieq_1, ↓ieq_0, bn_s1, bd_s1, ei_l1, ei_r1, J_add, J_sub, J_mul, J_neg, J_lt, J_le, J_eq, dv_J, rm_J, if_pos, if_neg, ↓reduceIte, bitJ, shlJ, orJ, j_0, j_1, j_2, j_3, j_4, j_5, j_6, j_7, j_8, j_9, j_10, j_11, j_12, j_13, j_14, j_15, j_16, j_17, j_18, j_19, j_20, j_21, j_22, j_23, j_24, j_25, j_26, j_27, j_28, j_29, j_30, j_31, j_32, j_33, j_34, j_35, j_36, j_37, j_38, j_39, j_40, j_41, j_42, j_43, j_44, j_45, j_46, j_47, j_48, j_49, j_50, j_51, j_52, j_57, j_59, j_63, j_74, j_75, j_93, j_97, j_99, j_100, j_122, j_200, j_255, j_300, j_465, j_496, j_900, j_999, j_1000, j_65536, j_65537, j_99999, j_252645135, j_858993459, j_1431655765, k_0, k_1, k_27, k_32, k_74, k_75, k_100, k_1000, k_65537]
  unfold F_pl_isLacking
  rw [ck_e (PS_k (XV_p V))]
  by_cases cm : w < 4
  · have yy : 0 < l (4 * (z : Int) + w) := of_decide_eq_true (p3 cm)
    rw [if_pos (isl_e.mpr ⟨w, cm, yy⟩)]
    rw [if_pos cm] at el
    try simp only [j_0, j_1, j_2, j_3, j_4, j_5, j_6, j_7, j_8, j_9, j_10, j_11, j_12, j_13, j_14, j_15, j_16, j_17, j_18, j_19, j_20, j_21, j_22, j_23, j_24, j_25, j_26, j_27, j_28, j_29, j_30, j_31, j_32, j_33, j_34, j_35, j_36, j_37, j_38, j_39, j_40, j_41, j_42, j_43, j_44, j_45, j_46, j_47, j_48, j_49, j_50, j_51, j_52, j_57, j_59, j_63, j_74, j_75, j_93, j_97, j_99, j_100, j_122, j_200, j_255, j_300, j_465, j_496, j_900, j_999, j_1000, j_65536, j_65537, j_99999, j_252645135, j_858993459, j_1431655765, k_0, k_1, k_27, k_32, k_74, k_75, k_100, k_1000, k_65537]
    simp (disch := first | with_reducible assumption | omega | trivial) only [↓bn_s1, ↓bd_s1, ↓ei_l1, ↓ei_r1, ↓bn_if, ↓ilt_1, ↓ilt_0, ↓ieq_1, ↓ieq_0, bn_s1, bd_s1, ei_l1, ei_r1, J_add, J_sub, J_mul, J_neg, J_lt, J_le, J_eq, dv_J, rm_J, if_pos, if_neg, ↓reduceIte, bitJ, shlJ, orJ, j_0, j_1, j_2, j_3, j_4, j_5, j_6, j_7, j_8, j_9, j_10, j_11, j_12, j_13, j_14, j_15, j_16, j_17, j_18, j_19, j_20, j_21, j_22, j_23, j_24, j_25, j_26, j_27, j_28, j_29, j_30, j_31, j_32, j_33, j_34, j_35, j_36, j_37, j_38, j_39, j_40, j_41, j_42, j_43, j_44, j_45, j_46, j_47, j_48, j_49, j_50, j_51, j_52, j_57, j_59, j_63, j_74, j_75, j_93, j_97, j_99, j_100, j_122, j_200, j_255, j_300, j_465, j_496, j_900, j_999, j_1000, j_65536, j_65537, j_99999, j_252645135, j_858993459, j_1431655765, k_0, k_1, k_27, k_32, k_74, k_75, k_100, k_1000, k_65537, ↓bn_e (el), el]
  · have nn : isl l z = false := isl_n.mpr (fun g hg => by
      have : ¬ 0 < l (4 * (z : Int) + g) := of_decide_eq_false (p2 g (by omega))
      omega)
    rw [nn, if_neg (by decide)]
    rw [if_neg cm] at el
    try simp only [j_0, j_1, j_2, j_3, j_4, j_5, j_6, j_7, j_8, j_9, j_10, j_11, j_12, j_13, j_14, j_15, j_16, j_17, j_18, j_19, j_20, j_21, j_22, j_23, j_24, j_25, j_26, j_27, j_28, j_29, j_30, j_31, j_32, j_33, j_34, j_35, j_36, j_37, j_38, j_39, j_40, j_41, j_42, j_43, j_44, j_45, j_46, j_47, j_48, j_49, j_50, j_51, j_52, j_57, j_59, j_63, j_74, j_75, j_93, j_97, j_99, j_100, j_122, j_200, j_255, j_300, j_465, j_496, j_900, j_999, j_1000, j_65536, j_65537, j_99999, j_252645135, j_858993459, j_1431655765, k_0, k_1, k_27, k_32, k_74, k_75, k_100, k_1000, k_65537]
    simp (disch := first | with_reducible assumption | omega | trivial) only [↓bn_s1, ↓bd_s1, ↓ei_l1, ↓ei_r1, ↓bn_if, ↓ilt_1, ↓ilt_0, ↓ieq_1, ↓ieq_0, bn_s1, bd_s1, ei_l1, ei_r1, J_add, J_sub, J_mul, J_neg, J_lt, J_le, J_eq, dv_J, rm_J, if_pos, if_neg, ↓reduceIte, bitJ, shlJ, orJ, j_0, j_1, j_2, j_3, j_4, j_5, j_6, j_7, j_8, j_9, j_10, j_11, j_12, j_13, j_14, j_15, j_16, j_17, j_18, j_19, j_20, j_21, j_22, j_23, j_24, j_25, j_26, j_27, j_28, j_29, j_30, j_31, j_32, j_33, j_34, j_35, j_36, j_37, j_38, j_39, j_40, j_41, j_42, j_43, j_44, j_45, j_46, j_47, j_48, j_49, j_50, j_51, j_52, j_57, j_59, j_63, j_74, j_75, j_93, j_97, j_99, j_100, j_122, j_200, j_255, j_300, j_465, j_496, j_900, j_999, j_1000, j_65536, j_65537, j_99999, j_252645135, j_858993459, j_1431655765, k_0, k_1, k_27, k_32, k_74, k_75, k_100, k_1000, k_65537, ↓bn_e (el), el]
theorem C_lackingRafts {t : Nat} {h : Hp} {l : Int → Int} {n k : Nat} (V : XV t h) (X : LH l h) (lb : lbd l k) (hn' : n ≤ 5) : F_pl_lackingRafts 57 (J n) h = some (J (lkn l n : Nat)) := by
  have el := lq_for (b := B_pl_lackingRafts_4 57 (J n) h) (r := J (lkn l n : Nat)) (f := FU) (s := (J 0, J 0)) (fun i => (J (lkn l i : Nat), J i)) n (by unfold FU; omega) rfl (fun i hi => by
    have ei := C_isLacking (z := i) V X lb (by omega)
    have ll := lkn_le l i
    have e6 : lkn l (i + 1) = lkn l i + (if isl l i = true then 1 else 0) := rfl
    unfold B_pl_lackingRafts_4
    by_cases c : isl l i = true
    · rw [if_pos c] at ei e6
      rw [e6]
      try simp only [j_0, j_1, j_2, j_3, j_4, j_5, j_6, j_7, j_8, j_9, j_10, j_11, j_12, j_13, j_14, j_15, j_16, j_17, j_18, j_19, j_20, j_21, j_22, j_23, j_24, j_25, j_26, j_27, j_28, j_29, j_30, j_31, j_32, j_33, j_34, j_35, j_36, j_37, j_38, j_39, j_40, j_41, j_42, j_43, j_44, j_45, j_46, j_47, j_48, j_49, j_50, j_51, j_52, j_57, j_59, j_63, j_74, j_75, j_93, j_97, j_99, j_100, j_122, j_200, j_255, j_300, j_465, j_496, j_900, j_999, j_1000, j_65536, j_65537, j_99999, j_252645135, j_858993459, j_1431655765, k_0, k_1, k_27, k_32, k_74, k_75, k_100, k_1000, k_65537]
      simp (disch := first | with_reducible assumption | omega | trivial) only [↓bn_s1, ↓bd_s1, ↓ei_l1, ↓ei_r1, ↓bn_if, ↓ilt_1, ↓ilt_0, ↓ieq_1, ↓ieq_0, bn_s1, bd_s1, ei_l1, ei_r1, J_add, J_sub, J_mul, J_neg, J_lt, J_le, J_eq, dv_J, rm_J, if_pos, if_neg, ↓reduceIte, bitJ, shlJ, orJ, j_0, j_1, j_2, j_3, j_4, j_5, j_6, j_7, j_8, j_9, j_10, j_11, j_12, j_13, j_14, j_15, j_16, j_17, j_18, j_19, j_20, j_21, j_22, j_23, j_24, j_25, j_26, j_27, j_28, j_29, j_30, j_31, j_32, j_33, j_34, j_35, j_36, j_37, j_38, j_39, j_40, j_41, j_42, j_43, j_44, j_45, j_46, j_47, j_48, j_49, j_50, j_51, j_52, j_57, j_59, j_63, j_74, j_75, j_93, j_97, j_99, j_100, j_122, j_200, j_255, j_300, j_465, j_496, j_900, j_999, j_1000, j_65536, j_65537, j_99999, j_252645135, j_858993459, j_1431655765, k_0, k_1, k_27, k_32, k_74, k_75, k_100, k_1000, k_65537, ↓bn_e (ei), ei]
      rfl
    · rw [if_neg c] at ei e6
      rw [e6]
      try simp only [j_0, j_1, j_2, j_3, j_4, j_5, j_6, j_7, j_8, j_9, j_10, j_11, j_12, j_13, j_14, j_15, j_16, j_17, j_18, j_19, j_20, j_21, j_22, j_23, j_24, j_25, j_26, j_27, j_28, j_29, j_30, j_31, j_32, j_33, j_34, j_35, j_36, j_37, j_38, j_39, j_40, j_41, j_42, j_43, j_44, j_45, j_46, j_47, j_48, j_49, j_50, j_51, j_52, j_57, j_59, j_63, j_74, j_75, j_93, j_97, j_99, j_100, j_122, j_200, j_255, j_300, j_465, j_496, j_900, j_999, j_1000, j_65536, j_65537, j_99999, j_252645135, j_858993459, j_1431655765, k_0, k_1, k_27, k_32, k_74, k_75, k_100, k_1000, k_65537]
      simp (disch := first | with_reducible assumption | omega | trivial) only [↓bn_s1, ↓bd_s1, ↓ei_l1, ↓ei_r1, ↓bn_if, ↓ilt_1, ↓ilt_0, ↓ieq_1, ↓ieq_0, bn_s1, bd_s1, ei_l1, ei_r1, J_add, J_sub, J_mul, J_neg, J_lt, J_le, J_eq, dv_J, rm_J, if_pos, if_neg, ↓reduceIte, bitJ, shlJ, orJ, j_0, j_1, j_2, j_3, j_4, j_5, j_6, j_7, j_8, j_9, j_10, j_11, j_12, j_13, j_14, j_15, j_16, j_17, j_18, j_19, j_20, j_21, j_22, j_23, j_24, j_25, j_26, j_27, j_28, j_29, j_30, j_31, j_32, j_33, j_34, j_35, j_36, j_37, j_38, j_39, j_40, j_41, j_42, j_43, j_44, j_45, j_46, j_47, j_48, j_49, j_50, j_51, j_52, j_57, j_59, j_63, j_74, j_75, j_93, j_97, j_99, j_100, j_122, j_200, j_255, j_300, j_465, j_496, j_900, j_999, j_1000, j_65536, j_65537, j_99999, j_252645135, j_858993459, j_1431655765, k_0, k_1, k_27, k_32, k_74, k_75, k_100, k_1000, k_65537, ↓bn_e (ei), ei]
      rfl) (by
    unfold B_pl_lackingRafts_4
    try simp only [j_0, j_1, j_2, j_3, j_4, j_5, j_6, j_7, j_8, j_9, j_10, j_11, j_12, j_13, j_14, j_15, j_16, j_17, j_18, j_19, j_20, j_21, j_22, j_23, j_24, j_25, j_26, j_27, j_28, j_29, j_30, j_31, j_32, j_33, j_34, j_35, j_36, j_37, j_38, j_39, j_40, j_41, j_42, j_43, j_44, j_45, j_46, j_47, j_48, j_49, j_50, j_51, j_52, j_57, j_59, j_63, j_74, j_75, j_93, j_97, j_99, j_100, j_122, j_200, j_255, j_300, j_465, j_496, j_900, j_999, j_1000, j_65536, j_65537, j_99999, j_252645135, j_858993459, j_1431655765, k_0, k_1, k_27, k_32, k_74, k_75, k_100, k_1000, k_65537]
    simp (disch := first | with_reducible assumption | omega | trivial) only [↓bn_s1, ↓bd_s1, ↓ei_l1, ↓ei_r1, ↓bn_if, ↓ilt_1, ↓ilt_0, ↓ieq_1, ↓ieq_0, bn_s1, bd_s1, ei_l1, ei_r1, J_add, J_sub, J_mul, J_neg, J_lt, J_le, J_eq, dv_J, rm_J, if_pos, if_neg, ↓reduceIte, bitJ, shlJ, orJ, j_0, j_1, j_2, j_3, j_4, j_5, j_6, j_7, j_8, j_9, j_10, j_11, j_12, j_13, j_14, j_15, j_16, j_17, j_18, j_19, j_20, j_21, j_22, j_23, j_24, j_25, j_26, j_27, j_28, j_29, j_30, j_31, j_32, j_33, j_34, j_35, j_36, j_37, j_38, j_39, j_40, j_41, j_42, j_43, j_44, j_45, j_46, j_47, j_48, j_49, j_50, j_51, j_52, j_57, j_59, j_63, j_74, j_75, j_93, j_97, j_99, j_100, j_122, j_200, j_255, j_300, j_465, j_496, j_900, j_999, j_1000, j_65536, j_65537, j_99999, j_252645135, j_858993459, j_1431655765, k_0, k_1, k_27, k_32, k_74, k_75, k_100, k_1000, k_65537])
  unfold F_pl_lackingRafts
  rw [ck_e (PS_k (XV_p V))]
  try simp only [j_0, j_1, j_2, j_3, j_4, j_5, j_6, j_7, j_8, j_9, j_10, j_11, j_12, j_13, j_14, j_15, j_16, j_17, j_18, j_19, j_20, j_21, j_22, j_23, j_24, j_25, j_26, j_27, j_28, j_29, j_30, j_31, j_32, j_33, j_34, j_35, j_36, j_37, j_38, j_39, j_40, j_41, j_42, j_43, j_44, j_45, j_46, j_47, j_48, j_49, j_50, j_51, j_52, j_57, j_59, j_63, j_74, j_75, j_93, j_97, j_99, j_100, j_122, j_200, j_255, j_300, j_465, j_496, j_900, j_999, j_1000, j_65536, j_65537, j_99999, j_252645135, j_858993459, j_1431655765, k_0, k_1, k_27, k_32, k_74, k_75, k_100, k_1000, k_65537]
  simp (disch := first | with_reducible assumption | omega | trivial) only [↓bn_s1, ↓bd_s1, ↓ei_l1, ↓ei_r1, ↓bn_if, ↓ilt_1, ↓ilt_0, ↓ieq_1, ↓ieq_0, bn_s1, bd_s1, ei_l1, ei_r1, J_add, J_sub, J_mul, J_neg, J_lt, J_le, J_eq, dv_J, rm_J, if_pos, if_neg, ↓reduceIte, bitJ, shlJ, orJ, j_0, j_1, j_2, j_3, j_4, j_5, j_6, j_7, j_8, j_9, j_10, j_11, j_12, j_13, j_14, j_15, j_16, j_17, j_18, j_19, j_20, j_21, j_22, j_23, j_24, j_25, j_26, j_27, j_28, j_29, j_30, j_31, j_32, j_33, j_34, j_35, j_36, j_37, j_38, j_39, j_40, j_41, j_42, j_43, j_44, j_45, j_46, j_47, j_48, j_49, j_50, j_51, j_52, j_57, j_59, j_63, j_74, j_75, j_93, j_97, j_99, j_100, j_122, j_200, j_255, j_300, j_465, j_496, j_900, j_999, j_1000, j_65536, j_65537, j_99999, j_252645135, j_858993459, j_1431655765, k_0, k_1, k_27, k_32, k_74, k_75, k_100, k_1000, k_65537, ↓bn_e (el), el]
def pul (l : Int → Int) (z : Nat) (k x : Int) : Int → Int := fun i => if 4 * (z : Int) ≤ i ∧ i < 4 * z + 4 then l i - x * lod k (i - 4 * z) else l i
theorem C_put2 {t : Nat} {h : Hp} {l : Int → Int} {z : Nat} {k x : Int} (V : XV t h) (X : LH l h) (lb : ∀ i, 0 ≤ i → i < 20 → -1000000 ≤ l i ∧ l i ≤ 700000) (hz : z < 5) (k0 : 0 ≤ k) (k1 : k ≤ 4) (hx : -100 ≤ x ∧ x ≤ 100) : ∃ h', F_pl_put 57 (J z) (J k) (J x) h = some h' ∧ Fm 65 66 h h' ∧ LH (pul l z k x) h' := by
  obtain ⟨y, h1, e1, f1, x1⟩ := lp_for (b := B_pl_put_3 57 (J z) (J k) (J x)) (f := FU) (s := J 0) (h := h) (fun g s h' => s = J g ∧ Fm 65 66 h h' ∧ ∀ i, 0 ≤ i → i < 20 → ia h' 65 i = if 4 * (z : Int) ≤ i ∧ i < 4 * z + g then l i - x * lod k (i - 4 * z) else l i) (fun _ h' => Fm 65 66 h h' ∧ LH (pul l z k x) h') 4 (by unfold FU; omega) ⟨rfl, fm_rf _ _ _, fun i i0 i1 => by rw [if_neg (by omega)]; exact X i i0 i1⟩ (fun g s h1 hg hI => by
      obtain ⟨rfl, f1, x1⟩ := hI
      have V1 := XV_fm f1 (by omega) V
      have v := x1 (4 * (z : Int) + g) (by omega) (by omega)
      rw [if_neg (by omega)] at v
      have eo := C_liftOfOld (g := g) (XV_c V1) k0 k1 (by omega) (by omega)
      have lo := lod_b (k := k) g (by omega)
      have e4 : (z : Int) * 4 + g = 4 * z + g := by omega
      have b := lb (4 * (z : Int) + g) (by omega) (by omega)
      have n : (iA h1 65).length = 20 := PS_n4 (XV_p V1)
      have xl : -400 ≤ x * lod k g ∧ x * lod k g ≤ 400 := by
        have : lod k g = 0 ∨ lod k g = 1 ∨ lod k g = 2 ∨ lod k g = 3 ∨ lod k g = 4 := by omega
        rcases this with e | e | e | e | e
        all_goals (rw [e]; omega)
      refine ⟨J (g + 1 : Nat), wA h1 65 (4 * (z : Int) + g) (l (4 * (z : Int) + g) - x * lod k g), ?_, rfl, fm_tr f1 (fm_wA (by omega) (by omega)), fun i i0 i1 => ?_⟩
      · unfold B_pl_put_3
        try simp only [j_0, j_1, j_2, j_3, j_4, j_5, j_6, j_7, j_8, j_9, j_10, j_11, j_12, j_13, j_14, j_15, j_16, j_17, j_18, j_19, j_20, j_21, j_22, j_23, j_24, j_25, j_26, j_27, j_28, j_29, j_30, j_31, j_32, j_33, j_34, j_35, j_36, j_37, j_38, j_39, j_40, j_41, j_42, j_43, j_44, j_45, j_46, j_47, j_48, j_49, j_50, j_51, j_52, j_57, j_59, j_63, j_74, j_75, j_93, j_97, j_99, j_100, j_122, j_200, j_255, j_300, j_465, j_496, j_900, j_999, j_1000, j_65536, j_65537, j_99999, j_252645135, j_858993459, j_1431655765, k_0, k_1, k_27, k_32, k_74, k_75, k_100, k_1000, k_65537]
        simp (disch := first | with_reducible assumption | omega | trivial) only [↓bn_s1, ↓bd_s1, ↓ei_l1, ↓ei_r1, ↓bn_if, ↓ilt_1, ↓ilt_0, ↓ieq_1, ↓ieq_0, bn_s1, bd_s1, ei_l1, ei_r1, J_add, J_sub, J_mul, J_neg, J_lt, J_le, J_eq, dv_J, rm_J, if_pos, if_neg, ↓reduceIte, bitJ, shlJ, orJ, j_0, j_1, j_2, j_3, j_4, j_5, j_6, j_7, j_8, j_9, j_10, j_11, j_12, j_13, j_14, j_15, j_16, j_17, j_18, j_19, j_20, j_21, j_22, j_23, j_24, j_25, j_26, j_27, j_28, j_29, j_30, j_31, j_32, j_33, j_34, j_35, j_36, j_37, j_38, j_39, j_40, j_41, j_42, j_43, j_44, j_45, j_46, j_47, j_48, j_49, j_50, j_51, j_52, j_57, j_59, j_63, j_74, j_75, j_93, j_97, j_99, j_100, j_122, j_200, j_255, j_300, j_465, j_496, j_900, j_999, j_1000, j_65536, j_65537, j_99999, j_252645135, j_858993459, j_1431655765, k_0, k_1, k_27, k_32, k_74, k_75, k_100, k_1000, k_65537, p_i V1, ↓p_i_b V1, p_p V1, ↓p_p_b V1, p_r1 V1, ↓p_r1_b V1, p_r2 V1, ↓p_r2_b V1, p_r4 V1, ↓p_r4_b V1, p_65a V1, ↓p_65a_b V1, p_65s V1, ↓p_65s_b V1, p_r5 V1, ↓p_r5_b V1, p_66a V1, ↓p_66a_b V1, p_66s V1, ↓p_66s_b V1, p_r6 V1, ↓p_r6_b V1, p_67a V1, ↓p_67a_b V1, p_67s V1, ↓p_67s_b V1, p_r7 V1, ↓p_r7_b V1, p_68a V1, ↓p_68a_b V1, p_68s V1, ↓p_68s_b V1, p_r8 V1, ↓p_r8_b V1, p_69a V1, ↓p_69a_b V1, p_69s V1, ↓p_69s_b V1, e4, v, ↓bn_e (eo), eo]
        rfl
      · rw [ia_if (by omega) i0 (by omega) (by omega) (by omega)]
        by_cases e : i = 4 * (z : Int) + g
        · rw [if_pos e, if_pos (by omega), e]
          have : 4 * (z : Int) + (g : Int) - 4 * z = g := by omega
          rw [this]
        · rw [if_neg e, x1 i i0 i1]
          by_cases e' : 4 * (z : Int) ≤ i ∧ i < 4 * z + g
          · rw [if_pos e', if_pos (by omega)]
          · rw [if_neg e', if_neg (by omega)]) (fun s h1 hI => by
      obtain ⟨rfl, f1, x1⟩ := hI
      refine ⟨(), h1, ?_, f1, x1⟩
      unfold B_pl_put_3
      try simp only [j_0, j_1, j_2, j_3, j_4, j_5, j_6, j_7, j_8, j_9, j_10, j_11, j_12, j_13, j_14, j_15, j_16, j_17, j_18, j_19, j_20, j_21, j_22, j_23, j_24, j_25, j_26, j_27, j_28, j_29, j_30, j_31, j_32, j_33, j_34, j_35, j_36, j_37, j_38, j_39, j_40, j_41, j_42, j_43, j_44, j_45, j_46, j_47, j_48, j_49, j_50, j_51, j_52, j_57, j_59, j_63, j_74, j_75, j_93, j_97, j_99, j_100, j_122, j_200, j_255, j_300, j_465, j_496, j_900, j_999, j_1000, j_65536, j_65537, j_99999, j_252645135, j_858993459, j_1431655765, k_0, k_1, k_27, k_32, k_74, k_75, k_100, k_1000, k_65537]
      simp (disch := first | with_reducible assumption | omega | trivial) only [↓bn_s1, ↓bd_s1, ↓ei_l1, ↓ei_r1, ↓bn_if, ↓ilt_1, ↓ilt_0, ↓ieq_1, ↓ieq_0, bn_s1, bd_s1, ei_l1, ei_r1, J_add, J_sub, J_mul, J_neg, J_lt, J_le, J_eq, dv_J, rm_J, if_pos, if_neg, ↓reduceIte, bitJ, shlJ, orJ, j_0, j_1, j_2, j_3, j_4, j_5, j_6, j_7, j_8, j_9, j_10, j_11, j_12, j_13, j_14, j_15, j_16, j_17, j_18, j_19, j_20, j_21, j_22, j_23, j_24, j_25, j_26, j_27, j_28, j_29, j_30, j_31, j_32, j_33, j_34, j_35, j_36, j_37, j_38, j_39, j_40, j_41, j_42, j_43, j_44, j_45, j_46, j_47, j_48, j_49, j_50, j_51, j_52, j_57, j_59, j_63, j_74, j_75, j_93, j_97, j_99, j_100, j_122, j_200, j_255, j_300, j_465, j_496, j_900, j_999, j_1000, j_65536, j_65537, j_99999, j_252645135, j_858993459, j_1431655765, k_0, k_1, k_27, k_32, k_74, k_75, k_100, k_1000, k_65537])
  refine ⟨h1, ?_, f1, x1⟩
  unfold F_pl_put
  rw [ck_e (PS_k (XV_p V))]
  try simp only [j_0, j_1, j_2, j_3, j_4, j_5, j_6, j_7, j_8, j_9, j_10, j_11, j_12, j_13, j_14, j_15, j_16, j_17, j_18, j_19, j_20, j_21, j_22, j_23, j_24, j_25, j_26, j_27, j_28, j_29, j_30, j_31, j_32, j_33, j_34, j_35, j_36, j_37, j_38, j_39, j_40, j_41, j_42, j_43, j_44, j_45, j_46, j_47, j_48, j_49, j_50, j_51, j_52, j_57, j_59, j_63, j_74, j_75, j_93, j_97, j_99, j_100, j_122, j_200, j_255, j_300, j_465, j_496, j_900, j_999, j_1000, j_65536, j_65537, j_99999, j_252645135, j_858993459, j_1431655765, k_0, k_1, k_27, k_32, k_74, k_75, k_100, k_1000, k_65537]
  simp (disch := first | with_reducible assumption | omega | trivial) only [↓bn_s1, ↓bd_s1, ↓ei_l1, ↓ei_r1, ↓bn_if, ↓ilt_1, ↓ilt_0, ↓ieq_1, ↓ieq_0, bn_s1, bd_s1, ei_l1, ei_r1, J_add, J_sub, J_mul, J_neg, J_lt, J_le, J_eq, dv_J, rm_J, if_pos, if_neg, ↓reduceIte, bitJ, shlJ, orJ, j_0, j_1, j_2, j_3, j_4, j_5, j_6, j_7, j_8, j_9, j_10, j_11, j_12, j_13, j_14, j_15, j_16, j_17, j_18, j_19, j_20, j_21, j_22, j_23, j_24, j_25, j_26, j_27, j_28, j_29, j_30, j_31, j_32, j_33, j_34, j_35, j_36, j_37, j_38, j_39, j_40, j_41, j_42, j_43, j_44, j_45, j_46, j_47, j_48, j_49, j_50, j_51, j_52, j_57, j_59, j_63, j_74, j_75, j_93, j_97, j_99, j_100, j_122, j_200, j_255, j_300, j_465, j_496, j_900, j_999, j_1000, j_65536, j_65537, j_99999, j_252645135, j_858993459, j_1431655765, k_0, k_1, k_27, k_32, k_74, k_75, k_100, k_1000, k_65537, ↓bd_e (e1), e1]
/-! notes -/
def okl (L : Lk) (l P : Int → Int) : Prop := ∀ i, 0 ≤ i → i < 4 * L 1 0 → l i ≤ P i
/-- what is noted, and what it says of puts P -/
def LPn (L : Lk) (c : Nat) (Q : (Int → Int) → Prop) (l : Int → Int) : Prop := nff L c l ∧ (∀ i, 0 ≤ i → i < 20 → 0 ≤ l i ∧ l i ≤ 600000) ∧ ∀ P : Int → Int, (∀ i, 0 ≤ P i) → (okl L l P ↔ Q P)
def ncd (L : Lk) (c : Nat) (o : Int → Int) (z : Nat) (g hi : Int) (P : Int → Int) : Prop := hi * (pc5 (raft L c z) : Int) - tot o (hn L) (raft L c z) ≤ P (4 * (fst1 L c z : Int) + g)
theorem C_note {L : Lk} {t : Nat} {h : Hp} {c : Nat} {o : Int → Int} {z : Nat} {g hi : Int} {Q : (Int → Int) → Prop} (HL : LW L) (V : XV t h) (M : RM L o c 58 h) (ho : OB L o) (hz : z < L 1 0) (g0 : 0 ≤ g) (g1 : g < 4) (hh : 0 ≤ hi ∧ hi ≤ 50) (X : LPn L c Q (fun i => ia h 65 i)) : ∃ h', F_pl_note 57 (J z) (J g) (J hi) h = some h' ∧ Fm 65 66 h h' ∧ LPn L c (fun P => Q P ∧ ncd L c o z g hi P) (fun i => ia h' 65 i) := by
  have b1 := LW_h HL
  have hne := hn_e HL
  obtain ⟨z1, O1, B1, _⟩ := M
  have ef := C_firstZ HL (XV_r58 V) B1 hz
  have es := C_sizeOf HL (XV_r58 V) B1 (z := z) (by omega) hz
  have et := C_totalOf HL (XV_r58 V) z1 B1 O1 (z := z) (by omega) hz
  have pf := fst_p HL c (show z < hn L by omega)
  have pz := raft_p HL c (h := z) (by omega) hz
  have tb := tot_b HL ho (n := hn L) (by omega) (raft L c z)
  obtain ⟨x1, x2, x3⟩ := X
  obtain ⟨r, hr⟩ : ∃ r, r = fst1 L c z := ⟨_, rfl⟩
  have pr := pf.1
  rw [← hr] at ef pr
  have lv := x2 (4 * (r : Int) + g) (by omega) (by omega)
  replace lv : 0 ≤ ia h 65 (4 * (r : Int) + g) ∧ ia h 65 (4 * (r : Int) + g) ≤ 600000 := lv
  have hs : 0 ≤ hi * (pc5 (raft L c z) : Int) ∧ hi * (pc5 (raft L c z) : Int) ≤ 250 := by
    have : pc5 (raft L c z) = 1 ∨ pc5 (raft L c z) = 2 ∨ pc5 (raft L c z) = 3 ∨ pc5 (raft L c z) = 4 ∨ pc5 (raft L c z) = 5 := by omega
    rcases this with e | e | e | e | e
    all_goals (rw [e]; omega)
  obtain ⟨v, hv⟩ : ∃ v, v = hi * (pc5 (raft L c z) : Int) - tot o (hn L) (raft L c z) := ⟨_, rfl⟩
  have mx := max_e (a := ia h 65 (4 * (r : Int) + g)) (b := v) (by omega) (by omega) (by omega) (by omega)
  have e4 : (r : Int) * 4 + g = 4 * r + g := by omega
  have n : (iA h 65).length = 20 := PS_n4 (XV_p V)
  have vi : ∀ i, 0 ≤ i → ia (wA h 65 (4 * (r : Int) + g) (max (ia h 65 (4 * (r : Int) + g)) v)) 65 i = if i = 4 * (r : Int) + g then max (ia h 65 (4 * (r : Int) + g)) v else ia h 65 i := fun i i0 => ia_if (by omega) i0 (by omega) (by omega) (by omega)
  refine ⟨wA h 65 (4 * (r : Int) + g) (max (ia h 65 (4 * (r : Int) + g)) v), ?_, fm_wA (by omega) (by omega), fun y hy hf => ?_, fun i i0 i1 => ?_, fun P hP => ?_⟩
  · unfold F_pl_note
    rw [ck_e (PS_k (XV_p V))]
    try simp only [j_0, j_1, j_2, j_3, j_4, j_5, j_6, j_7, j_8, j_9, j_10, j_11, j_12, j_13, j_14, j_15, j_16, j_17, j_18, j_19, j_20, j_21, j_22, j_23, j_24, j_25, j_26, j_27, j_28, j_29, j_30, j_31, j_32, j_33, j_34, j_35, j_36, j_37, j_38, j_39, j_40, j_41, j_42, j_43, j_44, j_45, j_46, j_47, j_48, j_49, j_50, j_51, j_52, j_57, j_59, j_63, j_74, j_75, j_93, j_97, j_99, j_100, j_122, j_200, j_255, j_300, j_465, j_496, j_900, j_999, j_1000, j_65536, j_65537, j_99999, j_252645135, j_858993459, j_1431655765, k_0, k_1, k_27, k_32, k_74, k_75, k_100, k_1000, k_65537]
    simp (disch := first | with_reducible assumption | omega | trivial) only [↓bn_s1, ↓bd_s1, ↓ei_l1, ↓ei_r1, ↓bn_if, ↓ilt_1, ↓ilt_0, ↓ieq_1, ↓ieq_0, bn_s1, bd_s1, ei_l1, ei_r1, J_add, J_sub, J_mul, J_neg, J_lt, J_le, J_eq, dv_J, rm_J, if_pos, if_neg, ↓reduceIte, bitJ, shlJ, orJ, j_0, j_1, j_2, j_3, j_4, j_5, j_6, j_7, j_8, j_9, j_10, j_11, j_12, j_13, j_14, j_15, j_16, j_17, j_18, j_19, j_20, j_21, j_22, j_23, j_24, j_25, j_26, j_27, j_28, j_29, j_30, j_31, j_32, j_33, j_34, j_35, j_36, j_37, j_38, j_39, j_40, j_41, j_42, j_43, j_44, j_45, j_46, j_47, j_48, j_49, j_50, j_51, j_52, j_57, j_59, j_63, j_74, j_75, j_93, j_97, j_99, j_100, j_122, j_200, j_255, j_300, j_465, j_496, j_900, j_999, j_1000, j_65536, j_65537, j_99999, j_252645135, j_858993459, j_1431655765, k_0, k_1, k_27, k_32, k_74, k_75, k_100, k_1000, k_65537, p_i V, ↓p_i_b V, p_p V, ↓p_p_b V, p_r1 V, ↓p_r1_b V, p_r2 V, ↓p_r2_b V, p_r4 V, ↓p_r4_b V, p_65a V, ↓p_65a_b V, p_65s V, ↓p_65s_b V, p_r5 V, ↓p_r5_b V, p_66a V, ↓p_66a_b V, p_66s V, ↓p_66s_b V, p_r6 V, ↓p_r6_b V, p_67a V, ↓p_67a_b V, p_67s V, ↓p_67s_b V, p_r7 V, ↓p_r7_b V, p_68a V, ↓p_68a_b V, p_68s V, ↓p_68s_b V, p_r8 V, ↓p_r8_b V, p_69a V, ↓p_69a_b V, p_69s V, ↓p_69s_b V, ↓bn_e (ef), ef, e4, ↓bn_e (es), es, ↓bn_e (et), et, ← hv, ↓bn_e (mx), mx]
  · have := x1 y hy hf
    rw [isl_n] at this ⊢
    intro q hq
    show ia (wA h 65 (4 * (r : Int) + g) (max (ia h 65 (4 * (r : Int) + g)) v)) 65 (4 * (y : Int) + q) ≤ 0
    rw [vi _ (by omega), if_neg]
    · exact this q hq
    · intro e
      have : y = r := by omega
      rw [this, hr] at hf
      exact hf pf.2.2.2.2
  · show 0 ≤ ia (wA h 65 (4 * (r : Int) + g) (max (ia h 65 (4 * (r : Int) + g)) v)) 65 i ∧ ia (wA h 65 (4 * (r : Int) + g) (max (ia h 65 (4 * (r : Int) + g)) v)) 65 i ≤ 600000
    rw [vi i i0]
    by_cases e : i = 4 * (r : Int) + g
    · rw [if_pos e]; omega
    · rw [if_neg e]; exact x2 i i0 i1
  · show _ ↔ (Q P ∧ ncd L c o z g hi P)
    rw [← x3 P hP]
    unfold ncd
    rw [← hr, ← hv]
    constructor
    · intro hk
      refine ⟨fun i i0 i1 => ?_, ?_⟩
      · have := hk i i0 i1
        replace this : ia (wA h 65 (4 * (r : Int) + g) (max (ia h 65 (4 * (r : Int) + g)) v)) 65 i ≤ P i := this
        rw [vi i i0] at this
        show ia h 65 i ≤ P i
        by_cases e : i = 4 * (r : Int) + g
        · rw [if_pos e] at this; rw [e] at this ⊢; omega
        · rw [if_neg e] at this; exact this
      · have := hk (4 * (r : Int) + g) (by omega) (by omega)
        replace this : ia (wA h 65 (4 * (r : Int) + g) (max (ia h 65 (4 * (r : Int) + g)) v)) 65 (4 * (r : Int) + g) ≤ P (4 * (r : Int) + g) := this
        rw [vi _ (by omega), if_pos rfl] at this
        omega
    · rintro ⟨h1, h2⟩ i i0 i1
      show ia (wA h 65 (4 * (r : Int) + g) (max (ia h 65 (4 * (r : Int) + g)) v)) 65 i ≤ P i
      rw [vi i i0]
      have := h1 i i0 i1
      replace this : ia h 65 i ≤ P i := this
      by_cases e : i = 4 * (r : Int) + g
      · rw [if_pos e]; rw [e] at this ⊢; omega
      · rw [if_neg e]; exact this
theorem LPn_iff {L : Lk} {c : Nat} {Q Q' : (Int → Int) → Prop} {l : Int → Int} (h : ∀ P, Q P ↔ Q' P) (H : LPn L c Q l) : LPn L c Q' l := ⟨H.1, H.2.1, fun P hP => (H.2.2 P hP).trans (h P)⟩
