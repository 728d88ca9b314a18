/-! undo, image, back -/
def a_und (a : Ab) : Ab := if qn a = 0 then sTr a 6 else sTr (mk a (qP a (qn a - 1)) (qP a) (qn a - 1) (qG a) (qm a)) 0
def v_und (a : Ab) : Int := if qn a = 0 then 0 else 1
theorem AW_und {a : Ab} (HA : AW a) : AW (a_und a) := by
  unfold a_und
  by_cases c : qn a = 0
  · rw [if_pos c]; exact AW_w (by omega) HA
  · rw [if_neg c]; exact AW_w (by omega) (AW_mk HA (HA.2.2.1 _ (by omega)) (fun j hj => HA.2.2.1 j (by omega)) HA.2.2.2.1)
theorem c_und2 {a : Ab} {t : Nat} {h : Hp} (HA : AW a) (H : CI a t h) : Ca (F_cs_undo 0 h) h (v_und a) (a_und a) t := by
  have kx := XS_k (XV_x H.1)
  have V := H.1
  have o := XV_o V
  have v3 := H.2.2.2.1.2.2.1
  have n16 := H.2.2.2.1.1
  unfold F_cs_undo v_und a_und
  rw [ck_e kx]
  by_cases c : qn a = 0
  · rw [if_pos c, if_pos c]
    refine ca_r H (by omega) ?_
    try simp only [j_0, j_1, j_2, j_3, j_4, j_5, j_6, j_7, j_8, j_9, j_10, j_11, j_12, j_13, j_14, j_15, j_16, j_17, j_18, j_19, j_20, j_21, j_22, j_23, j_24, j_25, j_26, j_27, j_28, j_29, j_30, j_31, j_32, j_33, j_34, j_35, j_36, j_37, j_38, j_39, j_40, j_41, j_42, j_43, j_44, j_45, j_46, j_47, j_48, j_49, j_50, j_51, j_52, j_57, j_59, j_63, j_74, j_75, j_93, j_97, j_99, j_100, j_122, j_200, j_255, j_300, j_465, j_496, j_900, j_999, j_1000, j_65536, j_65537, j_99999, j_252645135, j_858993459, j_1431655765, k_0, k_1, k_27, k_32, k_74, k_75, k_100, k_1000, k_65537]
    simp (disch := first | with_reducible assumption | omega | trivial) only [↓bn_s1, ↓bd_s1, ↓ei_l1, ↓ei_r1, ↓bn_if, ↓ilt_1, ↓ilt_0, ↓ieq_1, ↓ieq_0, bn_s1, bd_s1, ei_l1, ei_r1, J_add, J_sub, J_mul, J_neg, J_lt, J_le, J_eq, dv_J, rm_J, if_pos, if_neg, ↓reduceIte, bitJ, shlJ, orJ, j_0, j_1, j_2, j_3, j_4, j_5, j_6, j_7, j_8, j_9, j_10, j_11, j_12, j_13, j_14, j_15, j_16, j_17, j_18, j_19, j_20, j_21, j_22, j_23, j_24, j_25, j_26, j_27, j_28, j_29, j_30, j_31, j_32, j_33, j_34, j_35, j_36, j_37, j_38, j_39, j_40, j_41, j_42, j_43, j_44, j_45, j_46, j_47, j_48, j_49, j_50, j_51, j_52, j_57, j_59, j_63, j_74, j_75, j_93, j_97, j_99, j_100, j_122, j_200, j_255, j_300, j_465, j_496, j_900, j_999, j_1000, j_65536, j_65537, j_99999, j_252645135, j_858993459, j_1431655765, k_0, k_1, k_27, k_32, k_74, k_75, k_100, k_1000, k_65537, vr_0 V, ↓vr_0_b V, vr_2 V, ↓vr_2_b V, vr_4 V, ↓vr_4_b V, vr_5 V, ↓vr_5_b V, vr_6 V, ↓vr_6_b V, vr_7 V, ↓vr_7_b V, vr_8 V, ↓vr_8_b V, vr_9 V, ↓vr_9_b V, vr_10 V, ↓vr_10_b V, vr_11 V, ↓vr_11_b V, vr_3 V, ↓vr_3_b V, v0i V, ↓v0i_b V, v0p V, ↓v0p_b V, e_i V, ↓e_i_b V, e_p V, ↓e_p_b V, e_r0 V, ↓e_r0_b V, e_55a V, ↓e_55a_b V, e_55s V, ↓e_55s_b V, e_r1 V, ↓e_r1_b V, e_56a V, ↓e_56a_b V, e_56s V, ↓e_56s_b V, v3, c, ↓bd_e (rby_1 kx), rby_1 kx]
  · rw [if_neg c, if_neg c]
    have H1 := CI_w (v := 0) (by omega) H
    have V1 := H1.1
    obtain ⟨n, hn'⟩ : ∃ n, qn a = n + 1 := ⟨qn a - 1, by omega⟩
    have M1 : MR (qL a) (qP a) (n + 1) (qG a) (qm a) (wF h 0 12 0) := by rw [← hn']; exact H1.2.2.2.1
    obtain ⟨h2, e2, f2, g2, m2, S2⟩ := C_takeBack HA.1 (XV_e V1) (XV_s44 V1) M1
    have en : qn a - 1 = n := by omega
    rw [en]
    refine ⟨h2, ?_, fm_tr (fm_wF (by omega) (by omega)) (fm_wd f2 (by omega) (by omega)), CI_n f2 (by omega) (by omega) H1 S2 m2⟩
    try simp only [j_0, j_1, j_2, j_3, j_4, j_5, j_6, j_7, j_8, j_9, j_10, j_11, j_12, j_13, j_14, j_15, j_16, j_17, j_18, j_19, j_20, j_21, j_22, j_23, j_24, j_25, j_26, j_27, j_28, j_29, j_30, j_31, j_32, j_33, j_34, j_35, j_36, j_37, j_38, j_39, j_40, j_41, j_42, j_43, j_44, j_45, j_46, j_47, j_48, j_49, j_50, j_51, j_52, j_57, j_59, j_63, j_74, j_75, j_93, j_97, j_99, j_100, j_122, j_200, j_255, j_300, j_465, j_496, j_900, j_999, j_1000, j_65536, j_65537, j_99999, j_252645135, j_858993459, j_1431655765, k_0, k_1, k_27, k_32, k_74, k_75, k_100, k_1000, k_65537]
    simp (disch := first | with_reducible assumption | omega | trivial) only [↓bn_s1, ↓bd_s1, ↓ei_l1, ↓ei_r1, ↓bn_if, ↓ilt_1, ↓ilt_0, ↓ieq_1, ↓ieq_0, bn_s1, bd_s1, ei_l1, ei_r1, J_add, J_sub, J_mul, J_neg, J_lt, J_le, J_eq, dv_J, rm_J, if_pos, if_neg, ↓reduceIte, bitJ, shlJ, orJ, j_0, j_1, j_2, j_3, j_4, j_5, j_6, j_7, j_8, j_9, j_10, j_11, j_12, j_13, j_14, j_15, j_16, j_17, j_18, j_19, j_20, j_21, j_22, j_23, j_24, j_25, j_26, j_27, j_28, j_29, j_30, j_31, j_32, j_33, j_34, j_35, j_36, j_37, j_38, j_39, j_40, j_41, j_42, j_43, j_44, j_45, j_46, j_47, j_48, j_49, j_50, j_51, j_52, j_57, j_59, j_63, j_74, j_75, j_93, j_97, j_99, j_100, j_122, j_200, j_255, j_300, j_465, j_496, j_900, j_999, j_1000, j_65536, j_65537, j_99999, j_252645135, j_858993459, j_1431655765, k_0, k_1, k_27, k_32, k_74, k_75, k_100, k_1000, k_65537, vr_0 V, ↓vr_0_b V, vr_2 V, ↓vr_2_b V, vr_4 V, ↓vr_4_b V, vr_5 V, ↓vr_5_b V, vr_6 V, ↓vr_6_b V, vr_7 V, ↓vr_7_b V, vr_8 V, ↓vr_8_b V, vr_9 V, ↓vr_9_b V, vr_10 V, ↓vr_10_b V, vr_11 V, ↓vr_11_b V, vr_3 V, ↓vr_3_b V, v0i V, ↓v0i_b V, v0p V, ↓v0p_b V, e_i V, ↓e_i_b V, e_p V, ↓e_p_b V, e_r0 V, ↓e_r0_b V, e_55a V, ↓e_55a_b V, e_55s V, ↓e_55s_b V, e_r1 V, ↓e_r1_b V, e_56a V, ↓e_56a_b V, e_56s V, ↓e_56s_b V, v3, ↓bd_e (rby_0 kx), rby_0 kx, vr_0 V1, ↓vr_0_b V1, vr_2 V1, ↓vr_2_b V1, vr_4 V1, ↓vr_4_b V1, vr_5 V1, ↓vr_5_b V1, vr_6 V1, ↓vr_6_b V1, vr_7 V1, ↓vr_7_b V1, vr_8 V1, ↓vr_8_b V1, vr_9 V1, ↓vr_9_b V1, vr_10 V1, ↓vr_10_b V1, vr_11 V1, ↓vr_11_b V1, vr_3 V1, ↓vr_3_b V1, v0i V1, ↓v0i_b V1, v0p V1, ↓v0p_b V1, ↓bn_e (e2), e2]
theorem d_und2 {a : Ab} {h : Hp} (HN : NL a) (H : RI a h) : Da (F_md_undo 88 h) h (v_und a) (a_und a) := by
  have kx := MS_k H.1
  have H1 := RI_0 H
  have M1 := H1.1
  have f0 : Fm 88 102 h (wF h 88 0 0) := fm_wF (by omega) (by omega)
  have gr := fun (y : Int) => D_denied (y := y) (MS_k M1)
  have v19 := H1.2.2.2.1.1
  have n16 := H1.2.2.2.2.2.2.2.2.2.1
  unfold F_md_undo v_und a_und
  rw [ck_e kx]
  by_cases c : qn a = 0
  · rw [if_pos c, if_pos c]
    refine da_r f0 H1 (by omega) (by omega) ?_
    by_cases cl : qL a 1 0 = 0
    · have eq : gQ (wF h 88 0 0) 88 13 3 = some none := by rw [gQ_J (MS_k M1), lk_0 H1 cl]
      try simp only [j_0, j_1, j_2, j_3, j_4, j_5, j_6, j_7, j_8, j_9, j_10, j_11, j_12, j_13, j_14, j_15, j_16, j_17, j_18, j_19, j_20, j_21, j_22, j_23, j_24, j_25, j_26, j_27, j_28, j_29, j_30, j_31, j_32, j_33, j_34, j_35, j_36, j_37, j_38, j_39, j_40, j_41, j_42, j_43, j_44, j_45, j_46, j_47, j_48, j_49, j_50, j_51, j_52, j_57, j_59, j_63, j_74, j_75, j_93, j_97, j_99, j_100, j_122, j_200, j_255, j_300, j_465, j_496, j_900, j_999, j_1000, j_65536, j_65537, j_99999, j_252645135, j_858993459, j_1431655765, k_0, k_1, k_27, k_32, k_74, k_75, k_100, k_1000, k_65537]
      simp (disch := first | with_reducible assumption | omega | trivial) only [↓bn_s1, ↓bd_s1, ↓ei_l1, ↓ei_r1, ↓bn_if, ↓ilt_1, ↓ilt_0, ↓ieq_1, ↓ieq_0, bn_s1, bd_s1, ei_l1, ei_r1, J_add, J_sub, J_mul, J_neg, J_lt, J_le, J_eq, dv_J, rm_J, if_pos, if_neg, ↓reduceIte, bitJ, shlJ, orJ, j_0, j_1, j_2, j_3, j_4, j_5, j_6, j_7, j_8, j_9, j_10, j_11, j_12, j_13, j_14, j_15, j_16, j_17, j_18, j_19, j_20, j_21, j_22, j_23, j_24, j_25, j_26, j_27, j_28, j_29, j_30, j_31, j_32, j_33, j_34, j_35, j_36, j_37, j_38, j_39, j_40, j_41, j_42, j_43, j_44, j_45, j_46, j_47, j_48, j_49, j_50, j_51, j_52, j_57, j_59, j_63, j_74, j_75, j_93, j_97, j_99, j_100, j_122, j_200, j_255, j_300, j_465, j_496, j_900, j_999, j_1000, j_65536, j_65537, j_99999, j_252645135, j_858993459, j_1431655765, k_0, k_1, k_27, k_32, k_74, k_75, k_100, k_1000, k_65537, ↓bn_e (pI_J kx), pI_J kx, ↓bn_e (eq), eq, ↓bd_e (gr 6), gr 6, rv_0]
    · obtain ⟨b, C1⟩ := lk_1 H1 cl
      have ne : ¬ (some b = none) := by intro x; cases x
      have eq : gQ (wF h 88 0 0) 88 13 3 = some (some b) := cl_q C1
      try simp only [j_0, j_1, j_2, j_3, j_4, j_5, j_6, j_7, j_8, j_9, j_10, j_11, j_12, j_13, j_14, j_15, j_16, j_17, j_18, j_19, j_20, j_21, j_22, j_23, j_24, j_25, j_26, j_27, j_28, j_29, j_30, j_31, j_32, j_33, j_34, j_35, j_36, j_37, j_38, j_39, j_40, j_41, j_42, j_43, j_44, j_45, j_46, j_47, j_48, j_49, j_50, j_51, j_52, j_57, j_59, j_63, j_74, j_75, j_93, j_97, j_99, j_100, j_122, j_200, j_255, j_300, j_465, j_496, j_900, j_999, j_1000, j_65536, j_65537, j_99999, j_252645135, j_858993459, j_1431655765, k_0, k_1, k_27, k_32, k_74, k_75, k_100, k_1000, k_65537]
      simp (disch := first | with_reducible assumption | omega | trivial) only [↓bn_s1, ↓bd_s1, ↓ei_l1, ↓ei_r1, ↓bn_if, ↓ilt_1, ↓ilt_0, ↓ieq_1, ↓ieq_0, bn_s1, bd_s1, ei_l1, ei_r1, J_add, J_sub, J_mul, J_neg, J_lt, J_le, J_eq, dv_J, rm_J, if_pos, if_neg, ↓reduceIte, bitJ, shlJ, orJ, j_0, j_1, j_2, j_3, j_4, j_5, j_6, j_7, j_8, j_9, j_10, j_11, j_12, j_13, j_14, j_15, j_16, j_17, j_18, j_19, j_20, j_21, j_22, j_23, j_24, j_25, j_26, j_27, j_28, j_29, j_30, j_31, j_32, j_33, j_34, j_35, j_36, j_37, j_38, j_39, j_40, j_41, j_42, j_43, j_44, j_45, j_46, j_47, j_48, j_49, j_50, j_51, j_52, j_57, j_59, j_63, j_74, j_75, j_93, j_97, j_99, j_100, j_122, j_200, j_255, j_300, j_465, j_496, j_900, j_999, j_1000, j_65536, j_65537, j_99999, j_252645135, j_858993459, j_1431655765, k_0, k_1, k_27, k_32, k_74, k_75, k_100, k_1000, k_65537, ↓bn_e (pI_J kx), pI_J kx, ↓bn_e (eq), eq, ne, m_i M1, ↓m_i_b M1, m_p M1, ↓m_p_b M1, m_l M1, ↓m_l_b M1, m_pl M1, ↓m_pl_b M1, mr_15 M1, ↓mr_15_b M1, mr_16 M1, ↓mr_16_b M1, mr_17 M1, ↓mr_17_b M1, mr_18 M1, ↓mr_18_b M1, mr_21 M1, ↓mr_21_b M1, mr_22 M1, ↓mr_22_b M1, mr_23 M1, ↓mr_23_b M1, mr_24 M1, ↓mr_24_b M1, mr_25 M1, ↓mr_25_b M1, mr_30 M1, ↓mr_30_b M1, mr_31 M1, ↓mr_31_b M1, m90a M1, ↓m90a_b M1, m90s M1, ↓m90s_b M1, m91a M1, ↓m91a_b M1, m91s M1, ↓m91s_b M1, m92a M1, ↓m92a_b M1, m92s M1, ↓m92s_b M1, m93a M1, ↓m93a_b M1, m93s M1, ↓m93s_b M1, m94a M1, ↓m94a_b M1, m94s M1, ↓m94s_b M1, m95a M1, ↓m95a_b M1, m95s M1, ↓m95s_b M1, m96a M1, ↓m96a_b M1, m96s M1, ↓m96s_b M1, m97a M1, ↓m97a_b M1, m97s M1, ↓m97s_b M1, m98a M1, ↓m98a_b M1, m98s M1, ↓m98s_b M1, m99a M1, ↓m99a_b M1, m99s M1, ↓m99s_b M1, m100a M1, ↓m100a_b M1, m100s M1, ↓m100s_b M1, v19, c, ↓bd_e (gr 6), gr 6, rv_0]
  · rw [if_neg c, if_neg c]
    have cl : ¬ qL a 1 0 = 0 := fun x => c (HN x).2.2.2.1
    obtain ⟨b, C1⟩ := lk_1 H1 cl
    have ne : ¬ (some b = none) := by intro x; cases x
    have eq : gQ (wF h 88 0 0) 88 13 3 = some (some b) := cl_q C1
    obtain ⟨n, hn'⟩ : ∃ n, qn a = n + 1 := ⟨qn a - 1, by omega⟩
    have en : qn a - 1 = n := by omega
    rw [en]
    rw [hn'] at v19
    have ev : (((n + 1 : Nat) : Int)) - 1 = n := by omega
    have M2 : MS (wF (wF h 88 0 0) 88 19 n) := MS_fm (fm_wF (lo := 88) (hi := 89) (by omega) (by omega)) M1
    obtain ⟨y, h3, e3, f3, x3⟩ := lp_for (b := B_md_undo_38 88) (f := FU) (s := J 0) (h := wF (wF h 88 0 0) 88 19 n) (fun k s h' => s = J k ∧ Fm 90 91 (wF (wF h 88 0 0) 88 19 n) h' ∧ ∀ z : Int, 0 ≤ z → z < k → ia h' 90 z = qP a n z) (fun _ h' => Fm 90 91 (wF (wF h 88 0 0) 88 19 n) h' ∧ ∀ z : Int, 0 ≤ z → z < 31 → ia h' 90 z = qP a n z) 31 (by unfold FU; omega) ⟨rfl, fm_rf _ _ _, fun z z0 z1 => by omega⟩ (fun k s h3 hk hI => by
        obtain ⟨rfl, f3, x3⟩ := hI
        have M3 := MS_fm f3 M2
        have nn := MS_n15 M3
        have vk : ia h3 92 (31 * n + k) = qP a n k := by
          rw [fm_ia f3 (by omega)]
          exact H1.2.2.2.1.2 n (by omega) k (by omega) (by omega)
        have u19 : fi h3 88 19 = n := by rw [fm_fi f3 (by omega)]; exact fi_same (by omega) (by omega)
        have rg : -2147483648 ≤ qP a n k ∧ qP a n k < 2147483648 := by rw [← vk]; exact ia_rg h3 92 _
        refine ⟨J (k + 1 : Nat), wA h3 90 k (qP a n k), ?_, rfl, fm_tr f3 (fm_wA (by omega) (by omega)), fun z z0 z1 => ?_⟩
        · unfold B_md_undo_38
          try simp only [j_0, j_1, j_2, j_3, j_4, j_5, j_6, j_7, j_8, j_9, j_10, j_11, j_12, j_13, j_14, j_15, j_16, j_17, j_18, j_19, j_20, j_21, j_22, j_23, j_24, j_25, j_26, j_27, j_28, j_29, j_30, j_31, j_32, j_33, j_34, j_35, j_36, j_37, j_38, j_39, j_40, j_41, j_42, j_43, j_44, j_45, j_46, j_47, j_48, j_49, j_50, j_51, j_52, j_57, j_59, j_63, j_74, j_75, j_93, j_97, j_99, j_100, j_122, j_200, j_255, j_300, j_465, j_496, j_900, j_999, j_1000, j_65536, j_65537, j_99999, j_252645135, j_858993459, j_1431655765, k_0, k_1, k_27, k_32, k_74, k_75, k_100, k_1000, k_65537]
          simp (disch := first | with_reducible assumption | omega | trivial) only [↓bn_s1, ↓bd_s1, ↓ei_l1, ↓ei_r1, ↓bn_if, ↓ilt_1, ↓ilt_0, ↓ieq_1, ↓ieq_0, bn_s1, bd_s1, ei_l1, ei_r1, J_add, J_sub, J_mul, J_neg, J_lt, J_le, J_eq, dv_J, rm_J, if_pos, if_neg, ↓reduceIte, bitJ, shlJ, orJ, j_0, j_1, j_2, j_3, j_4, j_5, j_6, j_7, j_8, j_9, j_10, j_11, j_12, j_13, j_14, j_15, j_16, j_17, j_18, j_19, j_20, j_21, j_22, j_23, j_24, j_25, j_26, j_27, j_28, j_29, j_30, j_31, j_32, j_33, j_34, j_35, j_36, j_37, j_38, j_39, j_40, j_41, j_42, j_43, j_44, j_45, j_46, j_47, j_48, j_49, j_50, j_51, j_52, j_57, j_59, j_63, j_74, j_75, j_93, j_97, j_99, j_100, j_122, j_200, j_255, j_300, j_465, j_496, j_900, j_999, j_1000, j_65536, j_65537, j_99999, j_252645135, j_858993459, j_1431655765, k_0, k_1, k_27, k_32, k_74, k_75, k_100, k_1000, k_65537, m_i M3, ↓m_i_b M3, m_p M3, ↓m_p_b M3, m_l M3, ↓m_l_b M3, m_pl M3, ↓m_pl_b M3, mr_15 M3, ↓mr_15_b M3, mr_16 M3, ↓mr_16_b M3, mr_17 M3, ↓mr_17_b M3, mr_18 M3, ↓mr_18_b M3, mr_21 M3, ↓mr_21_b M3, mr_22 M3, ↓mr_22_b M3, mr_23 M3, ↓mr_23_b M3, mr_24 M3, ↓mr_24_b M3, mr_25 M3, ↓mr_25_b M3, mr_30 M3, ↓mr_30_b M3, mr_31 M3, ↓mr_31_b M3, m90a M3, ↓m90a_b M3, m90s M3, ↓m90s_b M3, m91a M3, ↓m91a_b M3, m91s M3, ↓m91s_b M3, m92a M3, ↓m92a_b M3, m92s M3, ↓m92s_b M3, m93a M3, ↓m93a_b M3, m93s M3, ↓m93s_b M3, m94a M3, ↓m94a_b M3, m94s M3, ↓m94s_b M3, m95a M3, ↓m95a_b M3, m95s M3, ↓m95s_b M3, m96a M3, ↓m96a_b M3, m96s M3, ↓m96s_b M3, m97a M3, ↓m97a_b M3, m97s M3, ↓m97s_b M3, m98a M3, ↓m98a_b M3, m98s M3, ↓m98s_b M3, m99a M3, ↓m99a_b M3, m99s M3, ↓m99s_b M3, m100a M3, ↓m100a_b M3, m100s M3, ↓m100s_b M3, u19, vk]
          rfl
        · rw [ia_if (by omega) z0 (by omega) rg.1 rg.2]
          by_cases e : z = k
          · rw [if_pos e, e]
          · rw [if_neg e]; exact x3 z z0 (by omega)) (fun s h3 hI => by
        obtain ⟨rfl, f3, x3⟩ := hI
        refine ⟨(), h3, ?_, f3, x3⟩
        unfold B_md_undo_38
        try simp only [j_0, j_1, j_2, j_3, j_4, j_5, j_6, j_7, j_8, j_9, j_10, j_11, j_12, j_13, j_14, j_15, j_16, j_17, j_18, j_19, j_20, j_21, j_22, j_23, j_24, j_25, j_26, j_27, j_28, j_29, j_30, j_31, j_32, j_33, j_34, j_35, j_36, j_37, j_38, j_39, j_40, j_41, j_42, j_43, j_44, j_45, j_46, j_47, j_48, j_49, j_50, j_51, j_52, j_57, j_59, j_63, j_74, j_75, j_93, j_97, j_99, j_100, j_122, j_200, j_255, j_300, j_465, j_496, j_900, j_999, j_1000, j_65536, j_65537, j_99999, j_252645135, j_858993459, j_1431655765, k_0, k_1, k_27, k_32, k_74, k_75, k_100, k_1000, k_65537]
        simp (disch := first | with_reducible assumption | omega | trivial) only [↓bn_s1, ↓bd_s1, ↓ei_l1, ↓ei_r1, ↓bn_if, ↓ilt_1, ↓ilt_0, ↓ieq_1, ↓ieq_0, bn_s1, bd_s1, ei_l1, ei_r1, J_add, J_sub, J_mul, J_neg, J_lt, J_le, J_eq, dv_J, rm_J, if_pos, if_neg, ↓reduceIte, bitJ, shlJ, orJ, j_0, j_1, j_2, j_3, j_4, j_5, j_6, j_7, j_8, j_9, j_10, j_11, j_12, j_13, j_14, j_15, j_16, j_17, j_18, j_19, j_20, j_21, j_22, j_23, j_24, j_25, j_26, j_27, j_28, j_29, j_30, j_31, j_32, j_33, j_34, j_35, j_36, j_37, j_38, j_39, j_40, j_41, j_42, j_43, j_44, j_45, j_46, j_47, j_48, j_49, j_50, j_51, j_52, j_57, j_59, j_63, j_74, j_75, j_93, j_97, j_99, j_100, j_122, j_200, j_255, j_300, j_465, j_496, j_900, j_999, j_1000, j_65536, j_65537, j_99999, j_252645135, j_858993459, j_1431655765, k_0, k_1, k_27, k_32, k_74, k_75, k_100, k_1000, k_65537])
    have M3 := MS_fm f3 M2
    have f13 : Fm 88 102 (wF h 88 0 0) h3 := fm_tr (fm_wF (by omega) (by omega)) (fm_wd f3 (by omega) (by omega))
    have fk : ∀ k, k ≠ 19 → fi h3 88 k = fi (wF h 88 0 0) 88 k := fun k hk => by rw [fm_fi f3 (by omega), fi_ne (Or.inr hk)]
    have ik : ∀ y, y ≠ 90 → ∀ z, ia h3 y z = ia (wF h 88 0 0) y z := fun y hy z => by rw [fm_ia f3 (by omega)]; rfl
    have H3 : RI (mk a (qP a n) (qP a) n (qG a) (qm a)) h3 := RI_n f13 H1 (fk 1 (by omega)) (fk 2 (by omega)) (fk 6 (by omega)) (fk 12 (by omega)) (ik 89 (by omega)) x3 (by rw [fm_fi f3 (by omega)]; exact fi_same (by omega) (by omega)) (fun j hj i i0 i1 => by rw [ik 92 (by omega)]; exact H1.2.2.2.1.2 j (by omega) i i0 i1) ((fk 20 (by omega)).trans H1.2.2.2.2.1.1) (fun j hj i i0 i1 => by rw [ik 93 (by omega)]; exact H1.2.2.2.2.1.2 j hj i i0 i1) (by omega) H1.2.2.2.2.2.2.2.2.2.2
    have gg := D_granted (MS_k M3)
    refine da_g (fm_tr f0 f13) H3 ?_
    try simp only [j_0, j_1, j_2, j_3, j_4, j_5, j_6, j_7, j_8, j_9, j_10, j_11, j_12, j_13, j_14, j_15, j_16, j_17, j_18, j_19, j_20, j_21, j_22, j_23, j_24, j_25, j_26, j_27, j_28, j_29, j_30, j_31, j_32, j_33, j_34, j_35, j_36, j_37, j_38, j_39, j_40, j_41, j_42, j_43, j_44, j_45, j_46, j_47, j_48, j_49, j_50, j_51, j_52, j_57, j_59, j_63, j_74, j_75, j_93, j_97, j_99, j_100, j_122, j_200, j_255, j_300, j_465, j_496, j_900, j_999, j_1000, j_65536, j_65537, j_99999, j_252645135, j_858993459, j_1431655765, k_0, k_1, k_27, k_32, k_74, k_75, k_100, k_1000, k_65537]
    simp (disch := first | with_reducible assumption | omega | trivial) only [↓bn_s1, ↓bd_s1, ↓ei_l1, ↓ei_r1, ↓bn_if, ↓ilt_1, ↓ilt_0, ↓ieq_1, ↓ieq_0, bn_s1, bd_s1, ei_l1, ei_r1, J_add, J_sub, J_mul, J_neg, J_lt, J_le, J_eq, dv_J, rm_J, if_pos, if_neg, ↓reduceIte, bitJ, shlJ, orJ, j_0, j_1, j_2, j_3, j_4, j_5, j_6, j_7, j_8, j_9, j_10, j_11, j_12, j_13, j_14, j_15, j_16, j_17, j_18, j_19, j_20, j_21, j_22, j_23, j_24, j_25, j_26, j_27, j_28, j_29, j_30, j_31, j_32, j_33, j_34, j_35, j_36, j_37, j_38, j_39, j_40, j_41, j_42, j_43, j_44, j_45, j_46, j_47, j_48, j_49, j_50, j_51, j_52, j_57, j_59, j_63, j_74, j_75, j_93, j_97, j_99, j_100, j_122, j_200, j_255, j_300, j_465, j_496, j_900, j_999, j_1000, j_65536, j_65537, j_99999, j_252645135, j_858993459, j_1431655765, k_0, k_1, k_27, k_32, k_74, k_75, k_100, k_1000, k_65537, ↓bn_e (pI_J kx), pI_J kx, ↓bn_e (eq), eq, ne, m_i M1, ↓m_i_b M1, m_p M1, ↓m_p_b M1, m_l M1, ↓m_l_b M1, m_pl M1, ↓m_pl_b M1, mr_15 M1, ↓mr_15_b M1, mr_16 M1, ↓mr_16_b M1, mr_17 M1, ↓mr_17_b M1, mr_18 M1, ↓mr_18_b M1, mr_21 M1, ↓mr_21_b M1, mr_22 M1, ↓mr_22_b M1, mr_23 M1, ↓mr_23_b M1, mr_24 M1, ↓mr_24_b M1, mr_25 M1, ↓mr_25_b M1, mr_30 M1, ↓mr_30_b M1, mr_31 M1, ↓mr_31_b M1, m90a M1, ↓m90a_b M1, m90s M1, ↓m90s_b M1, m91a M1, ↓m91a_b M1, m91s M1, ↓m91s_b M1, m92a M1, ↓m92a_b M1, m92s M1, ↓m92s_b M1, m93a M1, ↓m93a_b M1, m93s M1, ↓m93s_b M1, m94a M1, ↓m94a_b M1, m94s M1, ↓m94s_b M1, m95a M1, ↓m95a_b M1, m95s M1, ↓m95s_b M1, m96a M1, ↓m96a_b M1, m96s M1, ↓m96s_b M1, m97a M1, ↓m97a_b M1, m97s M1, ↓m97s_b M1, m98a M1, ↓m98a_b M1, m98s M1, ↓m98s_b M1, m99a M1, ↓m99a_b M1, m99s M1, ↓m99s_b M1, m100a M1, ↓m100a_b M1, m100s M1, ↓m100s_b M1, v19, ev, ↓bd_e (e3), e3, ↓bd_e (gg), gg, rv_1]
def upG (G : Nat → Sk) (m : Nat) (S : Sk) : Nat → Sk := fun j => if j = m then S else G j
def a_img (a : Ab) : Ab := if qL a 1 0 = 0 then sTr a 1 else if qm a < 3 then sTr (mk a (qS a) (qP a) (qn a) (upG (qG a) (qm a) (qS a)) (qm a + 1)) 0 else sTr a 3
def v_img (a : Ab) : Int := if qL a 1 0 = 0 then -1 else if qm a < 3 then (qm a : Int) else -1
theorem AW_img {a : Ab} (HA : AW a) : AW (a_img a) := by
  unfold a_img
  by_cases c : qL a 1 0 = 0
  · rw [if_pos c]; exact AW_w (by omega) HA
  · rw [if_neg c]
    by_cases d : qm a < 3
    · rw [if_pos d]
      refine AW_w (by omega) (AW_mk HA HA.2.1 HA.2.2.1 (fun j hj => ?_))
      unfold upG
      by_cases e : j = qm a
      · rw [if_pos e]; exact HA.2.1
      · rw [if_neg e]; exact HA.2.2.2.1 j (by omega)
    · rw [if_neg d]; exact AW_w (by omega) HA
theorem c_img {a : Ab} {t : Nat} {h : Hp} (HA : AW a) (H : CI a t h) : Ca (F_cs_image 0 h) h (v_img a) (a_img a) t := by
  have kx := XS_k (XV_x H.1)
  have bg := LW_g HA.1
  unfold F_cs_image v_img a_img
  rw [ck_e kx, jm1]
  by_cases c : qL a 1 0 = 0
  · rw [if_pos c, if_pos c]
    refine ca_r H (by omega) ?_
    try simp only [j_0, j_1, j_2, j_3, j_4, j_5, j_6, j_7, j_8, j_9, j_10, j_11, j_12, j_13, j_14, j_15, j_16, j_17, j_18, j_19, j_20, j_21, j_22, j_23, j_24, j_25, j_26, j_27, j_28, j_29, j_30, j_31, j_32, j_33, j_34, j_35, j_36, j_37, j_38, j_39, j_40, j_41, j_42, j_43, j_44, j_45, j_46, j_47, j_48, j_49, j_50, j_51, j_52, j_57, j_59, j_63, j_74, j_75, j_93, j_97, j_99, j_100, j_122, j_200, j_255, j_300, j_465, j_496, j_900, j_999, j_1000, j_65536, j_65537, j_99999, j_252645135, j_858993459, j_1431655765, k_0, k_1, k_27, k_32, k_74, k_75, k_100, k_1000, k_65537]
    simp (disch := first | with_reducible assumption | omega | trivial) only [↓bn_s1, ↓bd_s1, ↓ei_l1, ↓ei_r1, ↓bn_if, ↓ilt_1, ↓ilt_0, ↓ieq_1, ↓ieq_0, bn_s1, bd_s1, ei_l1, ei_r1, J_add, J_sub, J_mul, J_neg, J_lt, J_le, J_eq, dv_J, rm_J, if_pos, if_neg, ↓reduceIte, bitJ, shlJ, orJ, j_0, j_1, j_2, j_3, j_4, j_5, j_6, j_7, j_8, j_9, j_10, j_11, j_12, j_13, j_14, j_15, j_16, j_17, j_18, j_19, j_20, j_21, j_22, j_23, j_24, j_25, j_26, j_27, j_28, j_29, j_30, j_31, j_32, j_33, j_34, j_35, j_36, j_37, j_38, j_39, j_40, j_41, j_42, j_43, j_44, j_45, j_46, j_47, j_48, j_49, j_50, j_51, j_52, j_57, j_59, j_63, j_74, j_75, j_93, j_97, j_99, j_100, j_122, j_200, j_255, j_300, j_465, j_496, j_900, j_999, j_1000, j_65536, j_65537, j_99999, j_252645135, j_858993459, j_1431655765, k_0, k_1, k_27, k_32, k_74, k_75, k_100, k_1000, k_65537, ↓bn_e (nl_1 HA H c), nl_1 HA H c, ↓bd_e (ref_1 kx 0), ref_1 kx 0]
  · rw [if_neg c, if_neg c]
    have H1 := CI_w (v := 0) (by omega) H
    have V1 := H1.1
    have k1 := XS_k (XV_x V1)
    have v4 : fi (wF h 0 12 0) 54 4 = (qm a : Int) := H1.2.2.2.1.2.2.2.1
    have m3 : qm a ≤ 3 := H1.2.2.2.1.2.1
    by_cases d : qm a < 3
    · rw [if_pos d, if_pos d]
      have H2 := CI_w (v := 0) (by omega) H1
      have V2 := H2.1
      have E2 := XV_e V2
      have M2 : MR (qL a) (qP a) (qn a) (qG a) (qm a) (wF (wF h 0 12 0) 0 12 0) := H2.2.2.2.1
      have w4 : fi (wF (wF h 0 12 0) 0 12 0) 54 4 = (qm a : Int) := M2.2.2.2.1
      obtain ⟨h3, e3, f3, g3, o3⟩ := C_save (q := (qm a : Int)) HA.1 (XV_s44 V2) (show SR (qL a) 44 (qS a) _ from H2.2.2.1) (ES_k1 E2) (ES_n1 E2) (by omega) (by omega) (by omega) (by omega) (by omega) (by omega)
      have V3 := XV_fm f3 (by omega) V2
      have u4 : fi h3 54 4 = (qm a : Int) := by rw [fm_fi f3 (by omega)]; exact w4
      have f4 : Fm 54 57 h3 (wF h3 54 4 ((qm a : Int) + 1)) := fm_wF (by omega) (by omega)
      have V4 := XV_fm f4 (by omega) V3
      have M4 : MR (qL a) (qP a) (qn a) (upG (qG a) (qm a) (qS a)) (qm a + 1) (wF h3 54 4 ((qm a : Int) + 1)) := by
        obtain ⟨b1, b2, b3, b4, b5, q, b6, b7, b8⟩ := M2
        refine ⟨b1, by omega, ?_, ?_, fun j hj => ?_, q, b6, ?_, fun j hj => ?_⟩
        · rw [fi_ne (by omega), fm_fi f3 (by omega)]; exact b3
        · rw [fi_same (by omega) (by omega)]; omega
        · unfold upG
          by_cases e : j = qm a
          · rw [if_pos e, e]; exact g3
          · rw [if_neg e]
            exact SE_out bg.2 (by omega) (by omega) o3 (b5 j (by omega))
        · rw [fi_ne (by omega), fm_fi f3 (by omega)]; exact b7
        · have := SE_fm f3 (by omega) (b8 j hj)
          exact this
      have f34 : Fm 54 57 (wF (wF h 0 12 0) 0 12 0) (wF h3 54 4 ((qm a : Int) + 1)) := fm_tr (fm_wd f3 (by omega) (by omega)) f4
      have S4 := SR_fm f34 (by omega) H2.2.2.1
      have x4 : fi (wF h3 54 4 ((qm a : Int) + 1)) 54 4 = (qm a : Int) + 1 := fi_same (by omega) (by omega)
      have ep : F_me_paint 54 44 (wF (wF h 0 12 0) 0 12 0) = some (J (qm a : Int), wF h3 54 4 ((qm a : Int) + 1)) := by
        unfold F_me_paint
        rw [ck_e (ES_k E2)]
        try simp only [j_0, j_1, j_2, j_3, j_4, j_5, j_6, j_7, j_8, j_9, j_10, j_11, j_12, j_13, j_14, j_15, j_16, j_17, j_18, j_19, j_20, j_21, j_22, j_23, j_24, j_25, j_26, j_27, j_28, j_29, j_30, j_31, j_32, j_33, j_34, j_35, j_36, j_37, j_38, j_39, j_40, j_41, j_42, j_43, j_44, j_45, j_46, j_47, j_48, j_49, j_50, j_51, j_52, j_57, j_59, j_63, j_74, j_75, j_93, j_97, j_99, j_100, j_122, j_200, j_255, j_300, j_465, j_496, j_900, j_999, j_1000, j_65536, j_65537, j_99999, j_252645135, j_858993459, j_1431655765, k_0, k_1, k_27, k_32, k_74, k_75, k_100, k_1000, k_65537]
        simp (disch := first | with_reducible assumption | omega | trivial) only [↓bn_s1, ↓bd_s1, ↓ei_l1, ↓ei_r1, ↓bn_if, ↓ilt_1, ↓ilt_0, ↓ieq_1, ↓ieq_0, bn_s1, bd_s1, ei_l1, ei_r1, J_add, J_sub, J_mul, J_neg, J_lt, J_le, J_eq, dv_J, rm_J, if_pos, if_neg, ↓reduceIte, bitJ, shlJ, orJ, j_0, j_1, j_2, j_3, j_4, j_5, j_6, j_7, j_8, j_9, j_10, j_11, j_12, j_13, j_14, j_15, j_16, j_17, j_18, j_19, j_20, j_21, j_22, j_23, j_24, j_25, j_26, j_27, j_28, j_29, j_30, j_31, j_32, j_33, j_34, j_35, j_36, j_37, j_38, j_39, j_40, j_41, j_42, j_43, j_44, j_45, j_46, j_47, j_48, j_49, j_50, j_51, j_52, j_57, j_59, j_63, j_74, j_75, j_93, j_97, j_99, j_100, j_122, j_200, j_255, j_300, j_465, j_496, j_900, j_999, j_1000, j_65536, j_65537, j_99999, j_252645135, j_858993459, j_1431655765, k_0, k_1, k_27, k_32, k_74, k_75, k_100, k_1000, k_65537, e_i V2, ↓e_i_b V2, e_p V2, ↓e_p_b V2, e_r0 V2, ↓e_r0_b V2, e_55a V2, ↓e_55a_b V2, e_55s V2, ↓e_55s_b V2, e_r1 V2, ↓e_r1_b V2, e_56a V2, ↓e_56a_b V2, e_56s V2, ↓e_56s_b V2, w4, ↓bn_e (e3), e3, e_i V3, ↓e_i_b V3, e_p V3, ↓e_p_b V3, e_r0 V3, ↓e_r0_b V3, e_55a V3, ↓e_55a_b V3, e_55s V3, ↓e_55s_b V3, e_r1 V3, ↓e_r1_b V3, e_56a V3, ↓e_56a_b V3, e_56s V3, ↓e_56s_b V3, u4, e_i V4, ↓e_i_b V4, e_p V4, ↓e_p_b V4, e_r0 V4, ↓e_r0_b V4, e_55a V4, ↓e_55a_b V4, e_55s V4, ↓e_55s_b V4, e_r1 V4, ↓e_r1_b V4, e_56a V4, ↓e_56a_b V4, e_56s V4, ↓e_56s_b V4, x4, Int.add_sub_cancel]
      refine ⟨_, ?_, fm_tr (fm_wF (by omega) (by omega)) (fm_tr (fm_wF (by omega) (by omega)) (fm_wd f34 (by omega) (by omega))), CI_n f34 (by omega) (by omega) H2 S4 M4⟩
      try simp only [j_0, j_1, j_2, j_3, j_4, j_5, j_6, j_7, j_8, j_9, j_10, j_11, j_12, j_13, j_14, j_15, j_16, j_17, j_18, j_19, j_20, j_21, j_22, j_23, j_24, j_25, j_26, j_27, j_28, j_29, j_30, j_31, j_32, j_33, j_34, j_35, j_36, j_37, j_38, j_39, j_40, j_41, j_42, j_43, j_44, j_45, j_46, j_47, j_48, j_49, j_50, j_51, j_52, j_57, j_59, j_63, j_74, j_75, j_93, j_97, j_99, j_100, j_122, j_200, j_255, j_300, j_465, j_496, j_900, j_999, j_1000, j_65536, j_65537, j_99999, j_252645135, j_858993459, j_1431655765, k_0, k_1, k_27, k_32, k_74, k_75, k_100, k_1000, k_65537]
      simp (disch := first | with_reducible assumption | omega | trivial) only [↓bn_s1, ↓bd_s1, ↓ei_l1, ↓ei_r1, ↓bn_if, ↓ilt_1, ↓ilt_0, ↓ieq_1, ↓ieq_0, bn_s1, bd_s1, ei_l1, ei_r1, J_add, J_sub, J_mul, J_neg, J_lt, J_le, J_eq, dv_J, rm_J, if_pos, if_neg, ↓reduceIte, bitJ, shlJ, orJ, j_0, j_1, j_2, j_3, j_4, j_5, j_6, j_7, j_8, j_9, j_10, j_11, j_12, j_13, j_14, j_15, j_16, j_17, j_18, j_19, j_20, j_21, j_22, j_23, j_24, j_25, j_26, j_27, j_28, j_29, j_30, j_31, j_32, j_33, j_34, j_35, j_36, j_37, j_38, j_39, j_40, j_41, j_42, j_43, j_44, j_45, j_46, j_47, j_48, j_49, j_50, j_51, j_52, j_57, j_59, j_63, j_74, j_75, j_93, j_97, j_99, j_100, j_122, j_200, j_255, j_300, j_465, j_496, j_900, j_999, j_1000, j_65536, j_65537, j_99999, j_252645135, j_858993459, j_1431655765, k_0, k_1, k_27, k_32, k_74, k_75, k_100, k_1000, k_65537, ↓bn_e (nl_0 HA H c), nl_0 HA H c, ↓bd_e (ref_0 kx), ref_0 kx, vr_0 V1, ↓vr_0_b V1, vr_2 V1, ↓vr_2_b V1, vr_4 V1, ↓vr_4_b V1, vr_5 V1, ↓vr_5_b V1, vr_6 V1, ↓vr_6_b V1, vr_7 V1, ↓vr_7_b V1, vr_8 V1, ↓vr_8_b V1, vr_9 V1, ↓vr_9_b V1, vr_10 V1, ↓vr_10_b V1, vr_11 V1, ↓vr_11_b V1, vr_3 V1, ↓vr_3_b V1, v0i V1, ↓v0i_b V1, v0p V1, ↓v0p_b V1, e_i V1, ↓e_i_b V1, e_p V1, ↓e_p_b V1, e_r0 V1, ↓e_r0_b V1, e_55a V1, ↓e_55a_b V1, e_55s V1, ↓e_55s_b V1, e_r1 V1, ↓e_r1_b V1, e_56a V1, ↓e_56a_b V1, e_56s V1, ↓e_56s_b V1, v4, ↓bd_e (rby_0 k1), rby_0 k1, vr_0 V2, ↓vr_0_b V2, vr_2 V2, ↓vr_2_b V2, vr_4 V2, ↓vr_4_b V2, vr_5 V2, ↓vr_5_b V2, vr_6 V2, ↓vr_6_b V2, vr_7 V2, ↓vr_7_b V2, vr_8 V2, ↓vr_8_b V2, vr_9 V2, ↓vr_9_b V2, vr_10 V2, ↓vr_10_b V2, vr_11 V2, ↓vr_11_b V2, vr_3 V2, ↓vr_3_b V2, v0i V2, ↓v0i_b V2, v0p V2, ↓v0p_b V2, ↓bd_e (ep), ep]
    · rw [if_neg d, if_neg d]
      refine ca_r2 H (x := 0) (by omega) (by omega) ?_
      try simp only [j_0, j_1, j_2, j_3, j_4, j_5, j_6, j_7, j_8, j_9, j_10, j_11, j_12, j_13, j_14, j_15, j_16, j_17, j_18, j_19, j_20, j_21, j_22, j_23, j_24, j_25, j_26, j_27, j_28, j_29, j_30, j_31, j_32, j_33, j_34, j_35, j_36, j_37, j_38, j_39, j_40, j_41, j_42, j_43, j_44, j_45, j_46, j_47, j_48, j_49, j_50, j_51, j_52, j_57, j_59, j_63, j_74, j_75, j_93, j_97, j_99, j_100, j_122, j_200, j_255, j_300, j_465, j_496, j_900, j_999, j_1000, j_65536, j_65537, j_99999, j_252645135, j_858993459, j_1431655765, k_0, k_1, k_27, k_32, k_74, k_75, k_100, k_1000, k_65537]
      simp (disch := first | with_reducible assumption | omega | trivial) only [↓bn_s1, ↓bd_s1, ↓ei_l1, ↓ei_r1, ↓bn_if, ↓ilt_1, ↓ilt_0, ↓ieq_1, ↓ieq_0, bn_s1, bd_s1, ei_l1, ei_r1, J_add, J_sub, J_mul, J_neg, J_lt, J_le, J_eq, dv_J, rm_J, if_pos, if_neg, ↓reduceIte, bitJ, shlJ, orJ, j_0, j_1, j_2, j_3, j_4, j_5, j_6, j_7, j_8, j_9, j_10, j_11, j_12, j_13, j_14, j_15, j_16, j_17, j_18, j_19, j_20, j_21, j_22, j_23, j_24, j_25, j_26, j_27, j_28, j_29, j_30, j_31, j_32, j_33, j_34, j_35, j_36, j_37, j_38, j_39, j_40, j_41, j_42, j_43, j_44, j_45, j_46, j_47, j_48, j_49, j_50, j_51, j_52, j_57, j_59, j_63, j_74, j_75, j_93, j_97, j_99, j_100, j_122, j_200, j_255, j_300, j_465, j_496, j_900, j_999, j_1000, j_65536, j_65537, j_99999, j_252645135, j_858993459, j_1431655765, k_0, k_1, k_27, k_32, k_74, k_75, k_100, k_1000, k_65537, ↓bn_e (nl_0 HA H c), nl_0 HA H c, ↓bd_e (ref_0 kx), ref_0 kx, vr_0 V1, ↓vr_0_b V1, vr_2 V1, ↓vr_2_b V1, vr_4 V1, ↓vr_4_b V1, vr_5 V1, ↓vr_5_b V1, vr_6 V1, ↓vr_6_b V1, vr_7 V1, ↓vr_7_b V1, vr_8 V1, ↓vr_8_b V1, vr_9 V1, ↓vr_9_b V1, vr_10 V1, ↓vr_10_b V1, vr_11 V1, ↓vr_11_b V1, vr_3 V1, ↓vr_3_b V1, v0i V1, ↓v0i_b V1, v0p V1, ↓v0p_b V1, e_i V1, ↓e_i_b V1, e_p V1, ↓e_p_b V1, e_r0 V1, ↓e_r0_b V1, e_55a V1, ↓e_55a_b V1, e_55s V1, ↓e_55s_b V1, e_r1 V1, ↓e_r1_b V1, e_56a V1, ↓e_56a_b V1, e_56s V1, ↓e_56s_b V1, v4, ↓bd_e (rby_1 k1), rby_1 k1]
theorem d_img {a : Ab} {h : Hp} (HA : AW a) (H : RI a h) : Da (F_md_image 88 h) h (v_img a) (a_img a) := by
  have kx := MS_k H.1
  have H1 := RI_0 H
  have M1 := H1.1
  have f0 : Fm 88 102 h (wF h 88 0 0) := fm_wF (by omega) (by omega)
  have gr := fun (y : Int) => D_refused (y := y) (MS_k M1)
  have v20 := H1.2.2.2.2.1.1
  have m3 := H1.2.2.2.2.2.2.2.2.2.2
  unfold F_md_image v_img a_img
  rw [ck_e kx]
  by_cases c : qL a 1 0 = 0
  · rw [if_pos c, if_pos c]
    have eq : gQ (wF h 88 0 0) 88 13 3 = some none := by rw [gQ_J (MS_k M1), lk_0 H1 c]
    refine da_r f0 H1 (by omega) (by omega) ?_
    try simp only [j_0, j_1, j_2, j_3, j_4, j_5, j_6, j_7, j_8, j_9, j_10, j_11, j_12, j_13, j_14, j_15, j_16, j_17, j_18, j_19, j_20, j_21, j_22, j_23, j_24, j_25, j_26, j_27, j_28, j_29, j_30, j_31, j_32, j_33, j_34, j_35, j_36, j_37, j_38, j_39, j_40, j_41, j_42, j_43, j_44, j_45, j_46, j_47, j_48, j_49, j_50, j_51, j_52, j_57, j_59, j_63, j_74, j_75, j_93, j_97, j_99, j_100, j_122, j_200, j_255, j_300, j_465, j_496, j_900, j_999, j_1000, j_65536, j_65537, j_99999, j_252645135, j_858993459, j_1431655765, k_0, k_1, k_27, k_32, k_74, k_75, k_100, k_1000, k_65537]
    simp (disch := first | with_reducible assumption | omega | trivial) only [↓bn_s1, ↓bd_s1, ↓ei_l1, ↓ei_r1, ↓bn_if, ↓ilt_1, ↓ilt_0, ↓ieq_1, ↓ieq_0, bn_s1, bd_s1, ei_l1, ei_r1, J_add, J_sub, J_mul, J_neg, J_lt, J_le, J_eq, dv_J, rm_J, if_pos, if_neg, ↓reduceIte, bitJ, shlJ, orJ, j_0, j_1, j_2, j_3, j_4, j_5, j_6, j_7, j_8, j_9, j_10, j_11, j_12, j_13, j_14, j_15, j_16, j_17, j_18, j_19, j_20, j_21, j_22, j_23, j_24, j_25, j_26, j_27, j_28, j_29, j_30, j_31, j_32, j_33, j_34, j_35, j_36, j_37, j_38, j_39, j_40, j_41, j_42, j_43, j_44, j_45, j_46, j_47, j_48, j_49, j_50, j_51, j_52, j_57, j_59, j_63, j_74, j_75, j_93, j_97, j_99, j_100, j_122, j_200, j_255, j_300, j_465, j_496, j_900, j_999, j_1000, j_65536, j_65537, j_99999, j_252645135, j_858993459, j_1431655765, k_0, k_1, k_27, k_32, k_74, k_75, k_100, k_1000, k_65537, ↓bn_e (pI_J kx), pI_J kx, ↓bn_e (eq), eq, ↓bd_e (gr 1), gr 1]
  · rw [if_neg c, if_neg c]
    obtain ⟨b, C1⟩ := lk_1 H1 c
    have ne : ¬ (some b = none) := by intro x; cases x
    have eq : gQ (wF h 88 0 0) 88 13 3 = some (some b) := cl_q C1
    by_cases d : qm a < 3
    · rw [if_pos d, if_pos d]
      obtain ⟨y, h3, e3, f3, x3⟩ := lp_for (b := B_md_image_34 88) (f := FU) (s := J 0) (h := wF h 88 0 0) (fun k s h' => s = J k ∧ Fm 93 94 (wF h 88 0 0) h' ∧ ∀ z : Int, 0 ≤ z → z < 93 → ia h' 93 z = if 31 * (qm a : Int) ≤ z ∧ z < 31 * qm a + k then qS a (z - 31 * qm a) else ia (wF h 88 0 0) 93 z) (fun _ h' => Fm 93 94 (wF h 88 0 0) h' ∧ ∀ z : Int, 0 ≤ z → z < 93 → ia h' 93 z = if 31 * (qm a : Int) ≤ z ∧ z < 31 * qm a + 31 then qS a (z - 31 * qm a) else ia (wF h 88 0 0) 93 z) 31 (by unfold FU; omega) ⟨rfl, fm_rf _ _ _, fun z z0 z1 => by rw [if_neg (by omega)]⟩ (fun k s h3 hk hI => by
          obtain ⟨rfl, f3, x3⟩ := hI
          have M3 := MS_fm f3 M1
          have nn := MS_n18 M3
          have u20 : fi h3 88 20 = qm a := by rw [fm_fi f3 (by omega)]; exact v20
          have vk : ia h3 90 k = qS a k := by rw [fm_ia f3 (by omega)]; exact H1.2.2.1 k (by omega) (by omega)
          have rg : -2147483648 ≤ qS a k ∧ qS a k < 2147483648 := by rw [← vk]; exact ia_rg h3 90 _
          refine ⟨J (k + 1 : Nat), wA h3 93 (31 * qm a + k) (qS a k), ?_, rfl, fm_tr f3 (fm_wA (by omega) (by omega)), fun z z0 z1 => ?_⟩
          · unfold B_md_image_34
            try simp only [j_0, j_1, j_2, j_3, j_4, j_5, j_6, j_7, j_8, j_9, j_10, j_11, j_12, j_13, j_14, j_15, j_16, j_17, j_18, j_19, j_20, j_21, j_22, j_23, j_24, j_25, j_26, j_27, j_28, j_29, j_30, j_31, j_32, j_33, j_34, j_35, j_36, j_37, j_38, j_39, j_40, j_41, j_42, j_43, j_44, j_45, j_46, j_47, j_48, j_49, j_50, j_51, j_52, j_57, j_59, j_63, j_74, j_75, j_93, j_97, j_99, j_100, j_122, j_200, j_255, j_300, j_465, j_496, j_900, j_999, j_1000, j_65536, j_65537, j_99999, j_252645135, j_858993459, j_1431655765, k_0, k_1, k_27, k_32, k_74, k_75, k_100, k_1000, k_65537]
            simp (disch := first | with_reducible assumption | omega | trivial) only [↓bn_s1, ↓bd_s1, ↓ei_l1, ↓ei_r1, ↓bn_if, ↓ilt_1, ↓ilt_0, ↓ieq_1, ↓ieq_0, bn_s1, bd_s1, ei_l1, ei_r1, J_add, J_sub, J_mul, J_neg, J_lt, J_le, J_eq, dv_J, rm_J, if_pos, if_neg, ↓reduceIte, bitJ, shlJ, orJ, j_0, j_1, j_2, j_3, j_4, j_5, j_6, j_7, j_8, j_9, j_10, j_11, j_12, j_13, j_14, j_15, j_16, j_17, j_18, j_19, j_20, j_21, j_22, j_23, j_24, j_25, j_26, j_27, j_28, j_29, j_30, j_31, j_32, j_33, j_34, j_35, j_36, j_37, j_38, j_39, j_40, j_41, j_42, j_43, j_44, j_45, j_46, j_47, j_48, j_49, j_50, j_51, j_52, j_57, j_59, j_63, j_74, j_75, j_93, j_97, j_99, j_100, j_122, j_200, j_255, j_300, j_465, j_496, j_900, j_999, j_1000, j_65536, j_65537, j_99999, j_252645135, j_858993459, j_1431655765, k_0, k_1, k_27, k_32, k_74, k_75, k_100, k_1000, k_65537, m_i M3, ↓m_i_b M3, m_p M3, ↓m_p_b M3, m_l M3, ↓m_l_b M3, m_pl M3, ↓m_pl_b M3, mr_15 M3, ↓mr_15_b M3, mr_16 M3, ↓mr_16_b M3, mr_17 M3, ↓mr_17_b M3, mr_18 M3, ↓mr_18_b M3, mr_21 M3, ↓mr_21_b M3, mr_22 M3, ↓mr_22_b M3, mr_23 M3, ↓mr_23_b M3, mr_24 M3, ↓mr_24_b M3, mr_25 M3, ↓mr_25_b M3, mr_30 M3, ↓mr_30_b M3, mr_31 M3, ↓mr_31_b M3, m90a M3, ↓m90a_b M3, m90s M3, ↓m90s_b M3, m91a M3, ↓m91a_b M3, m91s M3, ↓m91s_b M3, m92a M3, ↓m92a_b M3, m92s M3, ↓m92s_b M3, m93a M3, ↓m93a_b M3, m93s M3, ↓m93s_b M3, m94a M3, ↓m94a_b M3, m94s M3, ↓m94s_b M3, m95a M3, ↓m95a_b M3, m95s M3, ↓m95s_b M3, m96a M3, ↓m96a_b M3, m96s M3, ↓m96s_b M3, m97a M3, ↓m97a_b M3, m97s M3, ↓m97s_b M3, m98a M3, ↓m98a_b M3, m98s M3, ↓m98s_b M3, m99a M3, ↓m99a_b M3, m99s M3, ↓m99s_b M3, m100a M3, ↓m100a_b M3, m100s M3, ↓m100s_b M3, u20, vk]
            rfl
          · rw [ia_if (by omega) z0 (by omega) rg.1 rg.2]
            by_cases e : z = 31 * qm a + k
            · rw [if_pos e, if_pos (by omega)]
              congr 1
              omega
            · rw [if_neg e, x3 z z0 z1]
              by_cases e' : 31 * (qm a : Int) ≤ z ∧ z < 31 * qm a + k
              · rw [if_pos e', if_pos (by omega)]
              · rw [if_neg e', if_neg (by omega)]) (fun s h3 hI => by
          obtain ⟨rfl, f3, x3⟩ := hI
          refine ⟨(), h3, ?_, f3, x3⟩
          unfold B_md_image_34
          try simp only [j_0, j_1, j_2, j_3, j_4, j_5, j_6, j_7, j_8, j_9, j_10, j_11, j_12, j_13, j_14, j_15, j_16, j_17, j_18, j_19, j_20, j_21, j_22, j_23, j_24, j_25, j_26, j_27, j_28, j_29, j_30, j_31, j_32, j_33, j_34, j_35, j_36, j_37, j_38, j_39, j_40, j_41, j_42, j_43, j_44, j_45, j_46, j_47, j_48, j_49, j_50, j_51, j_52, j_57, j_59, j_63, j_74, j_75, j_93, j_97, j_99, j_100, j_122, j_200, j_255, j_300, j_465, j_496, j_900, j_999, j_1000, j_65536, j_65537, j_99999, j_252645135, j_858993459, j_1431655765, k_0, k_1, k_27, k_32, k_74, k_75, k_100, k_1000, k_65537]
          simp (disch := first | with_reducible assumption | omega | trivial) only [↓bn_s1, ↓bd_s1, ↓ei_l1, ↓ei_r1, ↓bn_if, ↓ilt_1, ↓ilt_0, ↓ieq_1, ↓ieq_0, bn_s1, bd_s1, ei_l1, ei_r1, J_add, J_sub, J_mul, J_neg, J_lt, J_le, J_eq, dv_J, rm_J, if_pos, if_neg, ↓reduceIte, bitJ, shlJ, orJ, j_0, j_1, j_2, j_3, j_4, j_5, j_6, j_7, j_8, j_9, j_10, j_11, j_12, j_13, j_14, j_15, j_16, j_17, j_18, j_19, j_20, j_21, j_22, j_23, j_24, j_25, j_26, j_27, j_28, j_29, j_30, j_31, j_32, j_33, j_34, j_35, j_36, j_37, j_38, j_39, j_40, j_41, j_42, j_43, j_44, j_45, j_46, j_47, j_48, j_49, j_50, j_51, j_52, j_57, j_59, j_63, j_74, j_75, j_93, j_97, j_99, j_100, j_122, j_200, j_255, j_300, j_465, j_496, j_900, j_999, j_1000, j_65536, j_65537, j_99999, j_252645135, j_858993459, j_1431655765, k_0, k_1, k_27, k_32, k_74, k_75, k_100, k_1000, k_65537])
      have M3 := MS_fm f3 M1
      have u20 : fi h3 88 20 = qm a := by rw [fm_fi f3 (by omega)]; exact v20
      have f4 : Fm 88 102 h3 (wF h3 88 20 ((qm a : Int) + 1)) := fm_wF (by omega) (by omega)
      have M4 := MS_fm f4 M3
      have f13 : Fm 88 102 (wF h 88 0 0) (wF h3 88 20 ((qm a : Int) + 1)) := fm_tr (fm_wd f3 (by omega) (by omega)) f4
      have fk : ∀ k, k ≠ 20 → fi (wF h3 88 20 ((qm a : Int) + 1)) 88 k = fi (wF h 88 0 0) 88 k := fun k hk => by rw [fi_ne (Or.inr hk), fm_fi f3 (by omega)]
      have ik : ∀ y, y ≠ 93 → ∀ z, ia (wF h3 88 20 ((qm a : Int) + 1)) y z = ia (wF h 88 0 0) y z := fun y hy z => by show ia h3 y z = _; rw [fm_ia f3 (by omega)]
      have w20 : fi (wF h3 88 20 ((qm a : Int) + 1)) 88 20 = (qm a : Int) + 1 := fi_same (by omega) (by omega)
      have H4 : RI (mk a (qS a) (qP a) (qn a) (upG (qG a) (qm a) (qS a)) (qm a + 1)) (wF h3 88 20 ((qm a : Int) + 1)) := RI_n f13 H1 (fk 1 (by omega)) (fk 2 (by omega)) (fk 6 (by omega)) (fk 12 (by omega)) (ik 89 (by omega)) (fun i i0 i1 => by rw [ik 90 (by omega)]; exact H1.2.2.1 i i0 i1) ((fk 19 (by omega)).trans H1.2.2.2.1.1) (fun j hj i i0 i1 => by rw [ik 92 (by omega)]; exact H1.2.2.2.1.2 j hj i i0 i1) (by rw [w20]; omega) (fun j hj i i0 i1 => by
        show ia h3 93 (31 * j + i) = upG (qG a) (qm a) (qS a) j i
        rw [x3 _ (by omega) (by omega)]
        unfold upG
        by_cases e : j = qm a
        · rw [if_pos e, if_pos (by omega)]
          congr 1
          omega
        · rw [if_neg e, if_neg (by omega)]
          exact H1.2.2.2.2.1.2 j (by omega) i i0 i1) H1.2.2.2.2.2.2.2.2.2.1 (by omega)
      have gg := D_good (y := (qm a : Int)) (MS_k M4)
      refine da_g (fm_tr f0 f13) H4 ?_
      try simp only [j_0, j_1, j_2, j_3, j_4, j_5, j_6, j_7, j_8, j_9, j_10, j_11, j_12, j_13, j_14, j_15, j_16, j_17, j_18, j_19, j_20, j_21, j_22, j_23, j_24, j_25, j_26, j_27, j_28, j_29, j_30, j_31, j_32, j_33, j_34, j_35, j_36, j_37, j_38, j_39, j_40, j_41, j_42, j_43, j_44, j_45, j_46, j_47, j_48, j_49, j_50, j_51, j_52, j_57, j_59, j_63, j_74, j_75, j_93, j_97, j_99, j_100, j_122, j_200, j_255, j_300, j_465, j_496, j_900, j_999, j_1000, j_65536, j_65537, j_99999, j_252645135, j_858993459, j_1431655765, k_0, k_1, k_27, k_32, k_74, k_75, k_100, k_1000, k_65537]
      simp (disch := first | with_reducible assumption | omega | trivial) only [↓bn_s1, ↓bd_s1, ↓ei_l1, ↓ei_r1, ↓bn_if, ↓ilt_1, ↓ilt_0, ↓ieq_1, ↓ieq_0, bn_s1, bd_s1, ei_l1, ei_r1, J_add, J_sub, J_mul, J_neg, J_lt, J_le, J_eq, dv_J, rm_J, if_pos, if_neg, ↓reduceIte, bitJ, shlJ, orJ, j_0, j_1, j_2, j_3, j_4, j_5, j_6, j_7, j_8, j_9, j_10, j_11, j_12, j_13, j_14, j_15, j_16, j_17, j_18, j_19, j_20, j_21, j_22, j_23, j_24, j_25, j_26, j_27, j_28, j_29, j_30, j_31, j_32, j_33, j_34, j_35, j_36, j_37, j_38, j_39, j_40, j_41, j_42, j_43, j_44, j_45, j_46, j_47, j_48, j_49, j_50, j_51, j_52, j_57, j_59, j_63, j_74, j_75, j_93, j_97, j_99, j_100, j_122, j_200, j_255, j_300, j_465, j_496, j_900, j_999, j_1000, j_65536, j_65537, j_99999, j_252645135, j_858993459, j_1431655765, k_0, k_1, k_27, k_32, k_74, k_75, k_100, k_1000, k_65537, ↓bn_e (pI_J kx), pI_J kx, ↓bn_e (eq), eq, ne, m_i M1, ↓m_i_b M1, m_p M1, ↓m_p_b M1, m_l M1, ↓m_l_b M1, m_pl M1, ↓m_pl_b M1, mr_15 M1, ↓mr_15_b M1, mr_16 M1, ↓mr_16_b M1, mr_17 M1, ↓mr_17_b M1, mr_18 M1, ↓mr_18_b M1, mr_21 M1, ↓mr_21_b M1, mr_22 M1, ↓mr_22_b M1, mr_23 M1, ↓mr_23_b M1, mr_24 M1, ↓mr_24_b M1, mr_25 M1, ↓mr_25_b M1, mr_30 M1, ↓mr_30_b M1, mr_31 M1, ↓mr_31_b M1, m90a M1, ↓m90a_b M1, m90s M1, ↓m90s_b M1, m91a M1, ↓m91a_b M1, m91s M1, ↓m91s_b M1, m92a M1, ↓m92a_b M1, m92s M1, ↓m92s_b M1, m93a M1, ↓m93a_b M1, m93s M1, ↓m93s_b M1, m94a M1, ↓m94a_b M1, m94s M1, ↓m94s_b M1, m95a M1, ↓m95a_b M1, m95s M1, ↓m95s_b M1, m96a M1, ↓m96a_b M1, m96s M1, ↓m96s_b M1, m97a M1, ↓m97a_b M1, m97s M1, ↓m97s_b M1, m98a M1, ↓m98a_b M1, m98s M1, ↓m98s_b M1, m99a M1, ↓m99a_b M1, m99s M1, ↓m99s_b M1, m100a M1, ↓m100a_b M1, m100s M1, ↓m100s_b M1, v20, ↓bd_e (e3), e3, m_i M3, ↓m_i_b M3, m_p M3, ↓m_p_b M3, m_l M3, ↓m_l_b M3, m_pl M3, ↓m_pl_b M3, mr_15 M3, ↓mr_15_b M3, mr_16 M3, ↓mr_16_b M3, mr_17 M3, ↓mr_17_b M3, mr_18 M3, ↓mr_18_b M3, mr_21 M3, ↓mr_21_b M3, mr_22 M3, ↓mr_22_b M3, mr_23 M3, ↓mr_23_b M3, mr_24 M3, ↓mr_24_b M3, mr_25 M3, ↓mr_25_b M3, mr_30 M3, ↓mr_30_b M3, mr_31 M3, ↓mr_31_b M3, m90a M3, ↓m90a_b M3, m90s M3, ↓m90s_b M3, m91a M3, ↓m91a_b M3, m91s M3, ↓m91s_b M3, m92a M3, ↓m92a_b M3, m92s M3, ↓m92s_b M3, m93a M3, ↓m93a_b M3, m93s M3, ↓m93s_b M3, m94a M3, ↓m94a_b M3, m94s M3, ↓m94s_b M3, m95a M3, ↓m95a_b M3, m95s M3, ↓m95s_b M3, m96a M3, ↓m96a_b M3, m96s M3, ↓m96s_b M3, m97a M3, ↓m97a_b M3, m97s M3, ↓m97s_b M3, m98a M3, ↓m98a_b M3, m98s M3, ↓m98s_b M3, m99a M3, ↓m99a_b M3, m99s M3, ↓m99s_b M3, m100a M3, ↓m100a_b M3, m100s M3, ↓m100s_b M3, u20, m_i M4, ↓m_i_b M4, m_p M4, ↓m_p_b M4, m_l M4, ↓m_l_b M4, m_pl M4, ↓m_pl_b M4, mr_15 M4, ↓mr_15_b M4, mr_16 M4, ↓mr_16_b M4, mr_17 M4, ↓mr_17_b M4, mr_18 M4, ↓mr_18_b M4, mr_21 M4, ↓mr_21_b M4, mr_22 M4, ↓mr_22_b M4, mr_23 M4, ↓mr_23_b M4, mr_24 M4, ↓mr_24_b M4, mr_25 M4, ↓mr_25_b M4, mr_30 M4, ↓mr_30_b M4, mr_31 M4, ↓mr_31_b M4, m90a M4, ↓m90a_b M4, m90s M4, ↓m90s_b M4, m91a M4, ↓m91a_b M4, m91s M4, ↓m91s_b M4, m92a M4, ↓m92a_b M4, m92s M4, ↓m92s_b M4, m93a M4, ↓m93a_b M4, m93s M4, ↓m93s_b M4, m94a M4, ↓m94a_b M4, m94s M4, ↓m94s_b M4, m95a M4, ↓m95a_b M4, m95s M4, ↓m95s_b M4, m96a M4, ↓m96a_b M4, m96s M4, ↓m96s_b M4, m97a M4, ↓m97a_b M4, m97s M4, ↓m97s_b M4, m98a M4, ↓m98a_b M4, m98s M4, ↓m98s_b M4, m99a M4, ↓m99a_b M4, m99s M4, ↓m99s_b M4, m100a M4, ↓m100a_b M4, m100s M4, ↓m100s_b M4, w20, Int.add_sub_cancel, ↓bd_e (gg), gg]
    · rw [if_neg d, if_neg d]
      have e3 : qm a = 3 := by omega
      refine da_r f0 H1 (by omega) (by omega) ?_
      try simp only [j_0, j_1, j_2, j_3, j_4, j_5, j_6, j_7, j_8, j_9, j_10, j_11, j_12, j_13, j_14, j_15, j_16, j_17, j_18, j_19, j_20, j_21, j_22, j_23, j_24, j_25, j_26, j_27, j_28, j_29, j_30, j_31, j_32, j_33, j_34, j_35, j_36, j_37, j_38, j_39, j_40, j_41, j_42, j_43, j_44, j_45, j_46, j_47, j_48, j_49, j_50, j_51, j_52, j_57, j_59, j_63, j_74, j_75, j_93, j_97, j_99, j_100, j_122, j_200, j_255, j_300, j_465, j_496, j_900, j_999, j_1000, j_65536, j_65537, j_99999, j_252645135, j_858993459, j_1431655765, k_0, k_1, k_27, k_32, k_74, k_75, k_100, k_1000, k_65537]
      simp (disch := first | with_reducible assumption | omega | trivial) only [↓bn_s1, ↓bd_s1, ↓ei_l1, ↓ei_r1, ↓bn_if, ↓ilt_1, ↓ilt_0, ↓ieq_1, ↓ieq_0, bn_s1, bd_s1, ei_l1, ei_r1, J_add, J_sub, J_mul, J_neg, J_lt, J_le, J_eq, dv_J, rm_J, if_pos, if_neg, ↓reduceIte, bitJ, shlJ, orJ, j_0, j_1, j_2, j_3, j_4, j_5, j_6, j_7, j_8, j_9, j_10, j_11, j_12, j_13, j_14, j_15, j_16, j_17, j_18, j_19, j_20, j_21, j_22, j_23, j_24, j_25, j_26, j_27, j_28, j_29, j_30, j_31, j_32, j_33, j_34, j_35, j_36, j_37, j_38, j_39, j_40, j_41, j_42, j_43, j_44, j_45, j_46, j_47, j_48, j_49, j_50, j_51, j_52, j_57, j_59, j_63, j_74, j_75, j_93, j_97, j_99, j_100, j_122, j_200, j_255, j_300, j_465, j_496, j_900, j_999, j_1000, j_65536, j_65537, j_99999, j_252645135, j_858993459, j_1431655765, k_0, k_1, k_27, k_32, k_74, k_75, k_100, k_1000, k_65537, ↓bn_e (pI_J kx), pI_J kx, ↓bn_e (eq), eq, ne, m_i M1, ↓m_i_b M1, m_p M1, ↓m_p_b M1, m_l M1, ↓m_l_b M1, m_pl M1, ↓m_pl_b M1, mr_15 M1, ↓mr_15_b M1, mr_16 M1, ↓mr_16_b M1, mr_17 M1, ↓mr_17_b M1, mr_18 M1, ↓mr_18_b M1, mr_21 M1, ↓mr_21_b M1, mr_22 M1, ↓mr_22_b M1, mr_23 M1, ↓mr_23_b M1, mr_24 M1, ↓mr_24_b M1, mr_25 M1, ↓mr_25_b M1, mr_30 M1, ↓mr_30_b M1, mr_31 M1, ↓mr_31_b M1, m90a M1, ↓m90a_b M1, m90s M1, ↓m90s_b M1, m91a M1, ↓m91a_b M1, m91s M1, ↓m91s_b M1, m92a M1, ↓m92a_b M1, m92s M1, ↓m92s_b M1, m93a M1, ↓m93a_b M1, m93s M1, ↓m93s_b M1, m94a M1, ↓m94a_b M1, m94s M1, ↓m94s_b M1, m95a M1, ↓m95a_b M1, m95s M1, ↓m95s_b M1, m96a M1, ↓m96a_b M1, m96s M1, ↓m96s_b M1, m97a M1, ↓m97a_b M1, m97s M1, ↓m97s_b M1, m98a M1, ↓m98a_b M1, m98s M1, ↓m98s_b M1, m99a M1, ↓m99a_b M1, m99s M1, ↓m99s_b M1, m100a M1, ↓m100a_b M1, m100s M1, ↓m100s_b M1, v20, e3, ↓bd_e (gr 3), gr 3]
def a_bck (a : Ab) (i : Int) : Ab := if inr i (qm a) then sTr (mk a (qG a i.toNat) (qP a) 0 (qG a) (qm a)) 0 else sTr a 1
def v_bck (a : Ab) (i : Int) : Int := if inr i (qm a) then 1 else 0
theorem AW_bck {a : Ab} {i : Int} (HA : AW a) : AW (a_bck a i) := by
  unfold a_bck
  by_cases c : inr i (qm a)
  · rw [if_pos c]; exact AW_w (by omega) (AW_mk HA (HA.2.2.2.1 _ (by omega)) (fun j hj => by omega) HA.2.2.2.1)
  · rw [if_neg c]; exact AW_w (by omega) HA
theorem c_bck {a : Ab} {t : Nat} {h : Hp} {i : Int} (HA : AW a) (H : CI a t h) (hi : rng i) : Ca (F_cs_back 0 (J i) h) h (v_bck a i) (a_bck a i) t := by
  have kx := XS_k (XV_x H.1)
  have V := H.1
  have v4 := H.2.2.2.1.2.2.2.1
  have m3 := H.2.2.2.1.2.1
  have eo := pr_o (n := i) (lo := 0) (hi := (qm a : Int) - 1) rfl rfl hi (by omega)
  unfold F_cs_back v_bck a_bck
  rw [ck_e kx]
  by_cases c : inr i (qm a)
  · rw [if_pos (by omega)] at eo
    rw [if_pos c, if_pos c]
    have H1 := CI_w (v := 0) (by omega) H
    have V1 := H1.1
    have E1 := XV_e V1
    have M1 : MR (qL a) (qP a) (qn a) (qG a) (qm a) (wF h 0 12 0) := H1.2.2.2.1
    have se := M1.2.2.2.2.1 i.toNat (by omega)
    rw [show ((i.toNat : Nat) : Int) = i by omega] at se
    obtain ⟨h2, e2, f2, S2⟩ := C_load (q := i) HA.1 (XV_s44 V1) se (ES_k1 E1) (ES_n1 E1) (by omega) (by omega) (by omega) (by omega) (by omega) (by omega)
    have V2 := XV_fm f2 (by omega) V1
    have f3 : Fm 54 57 h2 (wF h2 54 3 0) := fm_wF (by omega) (by omega)
    have M3 : MR (qL a) (qP a) 0 (qG a) (qm a) (wF h2 54 3 0) := by
      obtain ⟨b1, b2, b3, b4, b5, q, b6, b7, b8⟩ := M1
      refine ⟨by omega, b2, fi_same (by omega) (by omega), ?_, fun j hj => ?_, q, b6, ?_, fun j hj => by omega⟩
      · rw [fi_ne (by omega), fm_fi f2 (by omega)]; exact b4
      · have := SE_fm f2 (by omega) (b5 j hj)
        exact this
      · rw [fi_ne (by omega), fm_fi f2 (by omega)]; exact b7
    have f23 : Fm 44 57 (wF h 0 12 0) (wF h2 54 3 0) := fm_tr (fm_wd f2 (by omega) (by omega)) (fm_wd f3 (by omega) (by omega))
    have eg : F_me_goBack 54 44 (J i) (wF h 0 12 0) = some (wF h2 54 3 0) := by
      unfold F_me_goBack
      rw [ck_e (ES_k E1)]
      try simp only [j_0, j_1, j_2, j_3, j_4, j_5, j_6, j_7, j_8, j_9, j_10, j_11, j_12, j_13, j_14, j_15, j_16, j_17, j_18, j_19, j_20, j_21, j_22, j_23, j_24, j_25, j_26, j_27, j_28, j_29, j_30, j_31, j_32, j_33, j_34, j_35, j_36, j_37, j_38, j_39, j_40, j_41, j_42, j_43, j_44, j_45, j_46, j_47, j_48, j_49, j_50, j_51, j_52, j_57, j_59, j_63, j_74, j_75, j_93, j_97, j_99, j_100, j_122, j_200, j_255, j_300, j_465, j_496, j_900, j_999, j_1000, j_65536, j_65537, j_99999, j_252645135, j_858993459, j_1431655765, k_0, k_1, k_27, k_32, k_74, k_75, k_100, k_1000, k_65537]
      simp (disch := first | with_reducible assumption | omega | trivial) only [↓bn_s1, ↓bd_s1, ↓ei_l1, ↓ei_r1, ↓bn_if, ↓ilt_1, ↓ilt_0, ↓ieq_1, ↓ieq_0, bn_s1, bd_s1, ei_l1, ei_r1, J_add, J_sub, J_mul, J_neg, J_lt, J_le, J_eq, dv_J, rm_J, if_pos, if_neg, ↓reduceIte, bitJ, shlJ, orJ, j_0, j_1, j_2, j_3, j_4, j_5, j_6, j_7, j_8, j_9, j_10, j_11, j_12, j_13, j_14, j_15, j_16, j_17, j_18, j_19, j_20, j_21, j_22, j_23, j_24, j_25, j_26, j_27, j_28, j_29, j_30, j_31, j_32, j_33, j_34, j_35, j_36, j_37, j_38, j_39, j_40, j_41, j_42, j_43, j_44, j_45, j_46, j_47, j_48, j_49, j_50, j_51, j_52, j_57, j_59, j_63, j_74, j_75, j_93, j_97, j_99, j_100, j_122, j_200, j_255, j_300, j_465, j_496, j_900, j_999, j_1000, j_65536, j_65537, j_99999, j_252645135, j_858993459, j_1431655765, k_0, k_1, k_27, k_32, k_74, k_75, k_100, k_1000, k_65537, e_i V1, ↓e_i_b V1, e_p V1, ↓e_p_b V1, e_r0 V1, ↓e_r0_b V1, e_55a V1, ↓e_55a_b V1, e_55s V1, ↓e_55s_b V1, e_r1 V1, ↓e_r1_b V1, e_56a V1, ↓e_56a_b V1, e_56s V1, ↓e_56s_b V1, ↓bn_e (e2), e2, e_i V2, ↓e_i_b V2, e_p V2, ↓e_p_b V2, e_r0 V2, ↓e_r0_b V2, e_55a V2, ↓e_55a_b V2, e_55s V2, ↓e_55s_b V2, e_r1 V2, ↓e_r1_b V2, e_56a V2, ↓e_56a_b V2, e_56s V2, ↓e_56s_b V2]
    refine ⟨_, ?_, fm_tr (fm_wF (by omega) (by omega)) (fm_wd f23 (by omega) (by omega)), CI_n f23 (by omega) (by omega) H1 (SR_fm f3 (by omega) S2) M3⟩
    try simp only [j_0, j_1, j_2, j_3, j_4, j_5, j_6, j_7, j_8, j_9, j_10, j_11, j_12, j_13, j_14, j_15, j_16, j_17, j_18, j_19, j_20, j_21, j_22, j_23, j_24, j_25, j_26, j_27, j_28, j_29, j_30, j_31, j_32, j_33, j_34, j_35, j_36, j_37, j_38, j_39, j_40, j_41, j_42, j_43, j_44, j_45, j_46, j_47, j_48, j_49, j_50, j_51, j_52, j_57, j_59, j_63, j_74, j_75, j_93, j_97, j_99, j_100, j_122, j_200, j_255, j_300, j_465, j_496, j_900, j_999, j_1000, j_65536, j_65537, j_99999, j_252645135, j_858993459, j_1431655765, k_0, k_1, k_27, k_32, k_74, k_75, k_100, k_1000, k_65537]
    simp (disch := first | with_reducible assumption | omega | trivial) only [↓bn_s1, ↓bd_s1, ↓ei_l1, ↓ei_r1, ↓bn_if, ↓ilt_1, ↓ilt_0, ↓ieq_1, ↓ieq_0, bn_s1, bd_s1, ei_l1, ei_r1, J_add, J_sub, J_mul, J_neg, J_lt, J_le, J_eq, dv_J, rm_J, if_pos, if_neg, ↓reduceIte, bitJ, shlJ, orJ, j_0, j_1, j_2, j_3, j_4, j_5, j_6, j_7, j_8, j_9, j_10, j_11, j_12, j_13, j_14, j_15, j_16, j_17, j_18, j_19, j_20, j_21, j_22, j_23, j_24, j_25, j_26, j_27, j_28, j_29, j_30, j_31, j_32, j_33, j_34, j_35, j_36, j_37, j_38, j_39, j_40, j_41, j_42, j_43, j_44, j_45, j_46, j_47, j_48, j_49, j_50, j_51, j_52, j_57, j_59, j_63, j_74, j_75, j_93, j_97, j_99, j_100, j_122, j_200, j_255, j_300, j_465, j_496, j_900, j_999, j_1000, j_65536, j_65537, j_99999, j_252645135, j_858993459, j_1431655765, k_0, k_1, k_27, k_32, k_74, k_75, k_100, k_1000, k_65537, vr_0 V, ↓vr_0_b V, vr_2 V, ↓vr_2_b V, vr_4 V, ↓vr_4_b V, vr_5 V, ↓vr_5_b V, vr_6 V, ↓vr_6_b V, vr_7 V, ↓vr_7_b V, vr_8 V, ↓vr_8_b V, vr_9 V, ↓vr_9_b V, vr_10 V, ↓vr_10_b V, vr_11 V, ↓vr_11_b V, vr_3 V, ↓vr_3_b V, v0i V, ↓v0i_b V, v0p V, ↓v0p_b V, e_i V, ↓e_i_b V, e_p V, ↓e_p_b V, e_r0 V, ↓e_r0_b V, e_55a V, ↓e_55a_b V, e_55s V, ↓e_55s_b V, e_r1 V, ↓e_r1_b V, e_56a V, ↓e_56a_b V, e_56s V, ↓e_56s_b V, v4, ↓bn_e (eo), eo, ↓bd_e (ref_0 kx), ref_0 kx, vr_0 V1, ↓vr_0_b V1, vr_2 V1, ↓vr_2_b V1, vr_4 V1, ↓vr_4_b V1, vr_5 V1, ↓vr_5_b V1, vr_6 V1, ↓vr_6_b V1, vr_7 V1, ↓vr_7_b V1, vr_8 V1, ↓vr_8_b V1, vr_9 V1, ↓vr_9_b V1, vr_10 V1, ↓vr_10_b V1, vr_11 V1, ↓vr_11_b V1, vr_3 V1, ↓vr_3_b V1, v0i V1, ↓v0i_b V1, v0p V1, ↓v0p_b V1, ↓bn_e (eg), eg]
  · rw [if_neg (by omega)] at eo
    rw [if_neg c, if_neg c]
    refine ca_r H (by omega) ?_
    try simp only [j_0, j_1, j_2, j_3, j_4, j_5, j_6, j_7, j_8, j_9, j_10, j_11, j_12, j_13, j_14, j_15, j_16, j_17, j_18, j_19, j_20, j_21, j_22, j_23, j_24, j_25, j_26, j_27, j_28, j_29, j_30, j_31, j_32, j_33, j_34, j_35, j_36, j_37, j_38, j_39, j_40, j_41, j_42, j_43, j_44, j_45, j_46, j_47, j_48, j_49, j_50, j_51, j_52, j_57, j_59, j_63, j_74, j_75, j_93, j_97, j_99, j_100, j_122, j_200, j_255, j_300, j_465, j_496, j_900, j_999, j_1000, j_65536, j_65537, j_99999, j_252645135, j_858993459, j_1431655765, k_0, k_1, k_27, k_32, k_74, k_75, k_100, k_1000, k_65537]
    simp (disch := first | with_reducible assumption | omega | trivial) only [↓bn_s1, ↓bd_s1, ↓ei_l1, ↓ei_r1, ↓bn_if, ↓ilt_1, ↓ilt_0, ↓ieq_1, ↓ieq_0, bn_s1, bd_s1, ei_l1, ei_r1, J_add, J_sub, J_mul, J_neg, J_lt, J_le, J_eq, dv_J, rm_J, if_pos, if_neg, ↓reduceIte, bitJ, shlJ, orJ, j_0, j_1, j_2, j_3, j_4, j_5, j_6, j_7, j_8, j_9, j_10, j_11, j_12, j_13, j_14, j_15, j_16, j_17, j_18, j_19, j_20, j_21, j_22, j_23, j_24, j_25, j_26, j_27, j_28, j_29, j_30, j_31, j_32, j_33, j_34, j_35, j_36, j_37, j_38, j_39, j_40, j_41, j_42, j_43, j_44, j_45, j_46, j_47, j_48, j_49, j_50, j_51, j_52, j_57, j_59, j_63, j_74, j_75, j_93, j_97, j_99, j_100, j_122, j_200, j_255, j_300, j_465, j_496, j_900, j_999, j_1000, j_65536, j_65537, j_99999, j_252645135, j_858993459, j_1431655765, k_0, k_1, k_27, k_32, k_74, k_75, k_100, k_1000, k_65537, vr_0 V, ↓vr_0_b V, vr_2 V, ↓vr_2_b V, vr_4 V, ↓vr_4_b V, vr_5 V, ↓vr_5_b V, vr_6 V, ↓vr_6_b V, vr_7 V, ↓vr_7_b V, vr_8 V, ↓vr_8_b V, vr_9 V, ↓vr_9_b V, vr_10 V, ↓vr_10_b V, vr_11 V, ↓vr_11_b V, vr_3 V, ↓vr_3_b V, v0i V, ↓v0i_b V, v0p V, ↓v0p_b V, e_i V, ↓e_i_b V, e_p V, ↓e_p_b V, e_r0 V, ↓e_r0_b V, e_55a V, ↓e_55a_b V, e_55s V, ↓e_55s_b V, e_r1 V, ↓e_r1_b V, e_56a V, ↓e_56a_b V, e_56s V, ↓e_56s_b V, v4, ↓bn_e (eo), eo, ↓bd_e (ref_1 kx 0), ref_1 kx 0]
theorem d_bck {a : Ab} {h : Hp} {i : Int} (HN : NL a) (H : RI a h) (hi : rng i) : Da (F_md_back 88 (J i) h) h (v_bck a i) (a_bck a i) := by
  have kx := MS_k H.1
  have H1 := RI_0 H
  have M1 := H1.1
  have f0 : Fm 88 102 h (wF h 88 0 0) := fm_wF (by omega) (by omega)
  have gr := fun (y : Int) => D_denied (y := y) (MS_k M1)
  have v20 := H1.2.2.2.2.1.1
  have m3 := H1.2.2.2.2.2.2.2.2.2.2
  unfold F_md_back v_bck a_bck
  rw [ck_e kx]
  by_cases c : inr i (qm a)
  · rw [if_pos c, if_pos c]
    have cl : ¬ qL a 1 0 = 0 := fun x => by have := (HN x).2.2.2.2; omega
    obtain ⟨b, C1⟩ := lk_1 H1 cl
    have ne : ¬ (some b = none) := by intro x; cases x
    have eq : gQ (wF h 88 0 0) 88 13 3 = some (some b) := cl_q C1
    obtain ⟨y, h3, e3, f3, x3⟩ := lp_for (b := B_md_back_32 88 (J i)) (f := FU) (s := J 0) (h := wF h 88 0 0) (fun k s h' => s = J k ∧ Fm 90 91 (wF h 88 0 0) h' ∧ ∀ z : Int, 0 ≤ z → z < k → ia h' 90 z = qG a i.toNat z) (fun _ h' => Fm 90 91 (wF h 88 0 0) h' ∧ ∀ z : Int, 0 ≤ z → z < 31 → ia h' 90 z = qG a i.toNat z) 31 (by unfold FU; omega) ⟨rfl, fm_rf _ _ _, fun z z0 z1 => by omega⟩ (fun k s h3 hk hI => by
        obtain ⟨rfl, f3, x3⟩ := hI
        have M3 := MS_fm f3 M1
        have nn := MS_n15 M3
        have vk : ia h3 93 (31 * i + k) = qG a i.toNat k := by
          rw [fm_ia f3 (by omega)]
          have := H1.2.2.2.2.1.2 i.toNat (by omega) k (by omega) (by omega)
          rw [show ((i.toNat : Nat) : Int) = i by omega] at this
          exact this
        have rg : -2147483648 ≤ qG a i.toNat k ∧ qG a i.toNat k < 2147483648 := by rw [← vk]; exact ia_rg h3 93 _
        refine ⟨J (k + 1 : Nat), wA h3 90 k (qG a i.toNat k), ?_, rfl, fm_tr f3 (fm_wA (by omega) (by omega)), fun z z0 z1 => ?_⟩
        · unfold B_md_back_32
          try simp only [j_0, j_1, j_2, j_3, j_4, j_5, j_6, j_7, j_8, j_9, j_10, j_11, j_12, j_13, j_14, j_15, j_16, j_17, j_18, j_19, j_20, j_21, j_22, j_23, j_24, j_25, j_26, j_27, j_28, j_29, j_30, j_31, j_32, j_33, j_34, j_35, j_36, j_37, j_38, j_39, j_40, j_41, j_42, j_43, j_44, j_45, j_46, j_47, j_48, j_49, j_50, j_51, j_52, j_57, j_59, j_63, j_74, j_75, j_93, j_97, j_99, j_100, j_122, j_200, j_255, j_300, j_465, j_496, j_900, j_999, j_1000, j_65536, j_65537, j_99999, j_252645135, j_858993459, j_1431655765, k_0, k_1, k_27, k_32, k_74, k_75, k_100, k_1000, k_65537]
          simp (disch := first | with_reducible assumption | omega | trivial) only [↓bn_s1, ↓bd_s1, ↓ei_l1, ↓ei_r1, ↓bn_if, ↓ilt_1, ↓ilt_0, ↓ieq_1, ↓ieq_0, bn_s1, bd_s1, ei_l1, ei_r1, J_add, J_sub, J_mul, J_neg, J_lt, J_le, J_eq, dv_J, rm_J, if_pos, if_neg, ↓reduceIte, bitJ, shlJ, orJ, j_0, j_1, j_2, j_3, j_4, j_5, j_6, j_7, j_8, j_9, j_10, j_11, j_12, j_13, j_14, j_15, j_16, j_17, j_18, j_19, j_20, j_21, j_22, j_23, j_24, j_25, j_26, j_27, j_28, j_29, j_30, j_31, j_32, j_33, j_34, j_35, j_36, j_37, j_38, j_39, j_40, j_41, j_42, j_43, j_44, j_45, j_46, j_47, j_48, j_49, j_50, j_51, j_52, j_57, j_59, j_63, j_74, j_75, j_93, j_97, j_99, j_100, j_122, j_200, j_255, j_300, j_465, j_496, j_900, j_999, j_1000, j_65536, j_65537, j_99999, j_252645135, j_858993459, j_1431655765, k_0, k_1, k_27, k_32, k_74, k_75, k_100, k_1000, k_65537, m_i M3, ↓m_i_b M3, m_p M3, ↓m_p_b M3, m_l M3, ↓m_l_b M3, m_pl M3, ↓m_pl_b M3, mr_15 M3, ↓mr_15_b M3, mr_16 M3, ↓mr_16_b M3, mr_17 M3, ↓mr_17_b M3, mr_18 M3, ↓mr_18_b M3, mr_21 M3, ↓mr_21_b M3, mr_22 M3, ↓mr_22_b M3, mr_23 M3, ↓mr_23_b M3, mr_24 M3, ↓mr_24_b M3, mr_25 M3, ↓mr_25_b M3, mr_30 M3, ↓mr_30_b M3, mr_31 M3, ↓mr_31_b M3, m90a M3, ↓m90a_b M3, m90s M3, ↓m90s_b M3, m91a M3, ↓m91a_b M3, m91s M3, ↓m91s_b M3, m92a M3, ↓m92a_b M3, m92s M3, ↓m92s_b M3, m93a M3, ↓m93a_b M3, m93s M3, ↓m93s_b M3, m94a M3, ↓m94a_b M3, m94s M3, ↓m94s_b M3, m95a M3, ↓m95a_b M3, m95s M3, ↓m95s_b M3, m96a M3, ↓m96a_b M3, m96s M3, ↓m96s_b M3, m97a M3, ↓m97a_b M3, m97s M3, ↓m97s_b M3, m98a M3, ↓m98a_b M3, m98s M3, ↓m98s_b M3, m99a M3, ↓m99a_b M3, m99s M3, ↓m99s_b M3, m100a M3, ↓m100a_b M3, m100s M3, ↓m100s_b M3, vk]
          rfl
        · rw [ia_if (by omega) z0 (by omega) rg.1 rg.2]
          by_cases e : z = k
          · rw [if_pos e, e]
          · rw [if_neg e]; exact x3 z z0 (by omega)) (fun s h3 hI => by
        obtain ⟨rfl, f3, x3⟩ := hI
        refine ⟨(), h3, ?_, f3, x3⟩
        unfold B_md_back_32
        try simp only [j_0, j_1, j_2, j_3, j_4, j_5, j_6, j_7, j_8, j_9, j_10, j_11, j_12, j_13, j_14, j_15, j_16, j_17, j_18, j_19, j_20, j_21, j_22, j_23, j_24, j_25, j_26, j_27, j_28, j_29, j_30, j_31, j_32, j_33, j_34, j_35, j_36, j_37, j_38, j_39, j_40, j_41, j_42, j_43, j_44, j_45, j_46, j_47, j_48, j_49, j_50, j_51, j_52, j_57, j_59, j_63, j_74, j_75, j_93, j_97, j_99, j_100, j_122, j_200, j_255, j_300, j_465, j_496, j_900, j_999, j_1000, j_65536, j_65537, j_99999, j_252645135, j_858993459, j_1431655765, k_0, k_1, k_27, k_32, k_74, k_75, k_100, k_1000, k_65537]
        simp (disch := first | with_reducible assumption | omega | trivial) only [↓bn_s1, ↓bd_s1, ↓ei_l1, ↓ei_r1, ↓bn_if, ↓ilt_1, ↓ilt_0, ↓ieq_1, ↓ieq_0, bn_s1, bd_s1, ei_l1, ei_r1, J_add, J_sub, J_mul, J_neg, J_lt, J_le, J_eq, dv_J, rm_J, if_pos, if_neg, ↓reduceIte, bitJ, shlJ, orJ, j_0, j_1, j_2, j_3, j_4, j_5, j_6, j_7, j_8, j_9, j_10, j_11, j_12, j_13, j_14, j_15, j_16, j_17, j_18, j_19, j_20, j_21, j_22, j_23, j_24, j_25, j_26, j_27, j_28, j_29, j_30, j_31, j_32, j_33, j_34, j_35, j_36, j_37, j_38, j_39, j_40, j_41, j_42, j_43, j_44, j_45, j_46, j_47, j_48, j_49, j_50, j_51, j_52, j_57, j_59, j_63, j_74, j_75, j_93, j_97, j_99, j_100, j_122, j_200, j_255, j_300, j_465, j_496, j_900, j_999, j_1000, j_65536, j_65537, j_99999, j_252645135, j_858993459, j_1431655765, k_0, k_1, k_27, k_32, k_74, k_75, k_100, k_1000, k_65537])
    have M3 := MS_fm f3 M1
    have f4 : Fm 88 102 h3 (wF h3 88 19 0) := fm_wF (by omega) (by omega)
    have M4 := MS_fm f4 M3
    have f13 : Fm 88 102 (wF h 88 0 0) (wF h3 88 19 0) := fm_tr (fm_wd f3 (by omega) (by omega)) f4
    have fk : ∀ k, k ≠ 19 → fi (wF h3 88 19 0) 88 k = fi (wF h 88 0 0) 88 k := fun k hk => by rw [fi_ne (Or.inr hk), fm_fi f3 (by omega)]
    have ik : ∀ y, y ≠ 90 → ∀ z, ia (wF h3 88 19 0) y z = ia (wF h 88 0 0) y z := fun y hy z => by show ia h3 y z = _; rw [fm_ia f3 (by omega)]
    have H4 : RI (mk a (qG a i.toNat) (qP a) 0 (qG a) (qm a)) (wF h3 88 19 0) := RI_n f13 H1 (fk 1 (by omega)) (fk 2 (by omega)) (fk 6 (by omega)) (fk 12 (by omega)) (ik 89 (by omega)) x3 (fi_same (by omega) (by omega)) (fun j hj => by omega) ((fk 20 (by omega)).trans v20) (fun j hj i i0 i1 => by rw [ik 93 (by omega)]; exact H1.2.2.2.2.1.2 j hj i i0 i1) (by omega) m3
    have gg := D_granted (MS_k M4)
    refine da_g (fm_tr f0 f13) H4 ?_
    try simp only [j_0, j_1, j_2, j_3, j_4, j_5, j_6, j_7, j_8, j_9, j_10, j_11, j_12, j_13, j_14, j_15, j_16, j_17, j_18, j_19, j_20, j_21, j_22, j_23, j_24, j_25, j_26, j_27, j_28, j_29, j_30, j_31, j_32, j_33, j_34, j_35, j_36, j_37, j_38, j_39, j_40, j_41, j_42, j_43, j_44, j_45, j_46, j_47, j_48, j_49, j_50, j_51, j_52, j_57, j_59, j_63, j_74, j_75, j_93, j_97, j_99, j_100, j_122, j_200, j_255, j_300, j_465, j_496, j_900, j_999, j_1000, j_65536, j_65537, j_99999, j_252645135, j_858993459, j_1431655765, k_0, k_1, k_27, k_32, k_74, k_75, k_100, k_1000, k_65537]
    simp (disch := first | with_reducible assumption | omega | trivial) only [↓bn_s1, ↓bd_s1, ↓ei_l1, ↓ei_r1, ↓bn_if, ↓ilt_1, ↓ilt_0, ↓ieq_1, ↓ieq_0, bn_s1, bd_s1, ei_l1, ei_r1, J_add, J_sub, J_mul, J_neg, J_lt, J_le, J_eq, dv_J, rm_J, if_pos, if_neg, ↓reduceIte, bitJ, shlJ, orJ, j_0, j_1, j_2, j_3, j_4, j_5, j_6, j_7, j_8, j_9, j_10, j_11, j_12, j_13, j_14, j_15, j_16, j_17, j_18, j_19, j_20, j_21, j_22, j_23, j_24, j_25, j_26, j_27, j_28, j_29, j_30, j_31, j_32, j_33, j_34, j_35, j_36, j_37, j_38, j_39, j_40, j_41, j_42, j_43, j_44, j_45, j_46, j_47, j_48, j_49, j_50, j_51, j_52, j_57, j_59, j_63, j_74, j_75, j_93, j_97, j_99, j_100, j_122, j_200, j_255, j_300, j_465, j_496, j_900, j_999, j_1000, j_65536, j_65537, j_99999, j_252645135, j_858993459, j_1431655765, k_0, k_1, k_27, k_32, k_74, k_75, k_100, k_1000, k_65537, ↓bn_e (pI_J kx), pI_J kx, ↓bn_e (eq), eq, ne, m_i M1, ↓m_i_b M1, m_p M1, ↓m_p_b M1, m_l M1, ↓m_l_b M1, m_pl M1, ↓m_pl_b M1, mr_15 M1, ↓mr_15_b M1, mr_16 M1, ↓mr_16_b M1, mr_17 M1, ↓mr_17_b M1, mr_18 M1, ↓mr_18_b M1, mr_21 M1, ↓mr_21_b M1, mr_22 M1, ↓mr_22_b M1, mr_23 M1, ↓mr_23_b M1, mr_24 M1, ↓mr_24_b M1, mr_25 M1, ↓mr_25_b M1, mr_30 M1, ↓mr_30_b M1, mr_31 M1, ↓mr_31_b M1, m90a M1, ↓m90a_b M1, m90s M1, ↓m90s_b M1, m91a M1, ↓m91a_b M1, m91s M1, ↓m91s_b M1, m92a M1, ↓m92a_b M1, m92s M1, ↓m92s_b M1, m93a M1, ↓m93a_b M1, m93s M1, ↓m93s_b M1, m94a M1, ↓m94a_b M1, m94s M1, ↓m94s_b M1, m95a M1, ↓m95a_b M1, m95s M1, ↓m95s_b M1, m96a M1, ↓m96a_b M1, m96s M1, ↓m96s_b M1, m97a M1, ↓m97a_b M1, m97s M1, ↓m97s_b M1, m98a M1, ↓m98a_b M1, m98s M1, ↓m98s_b M1, m99a M1, ↓m99a_b M1, m99s M1, ↓m99s_b M1, m100a M1, ↓m100a_b M1, m100s M1, ↓m100s_b M1, v20, ↓bd_e (e3), e3, m_i M3, ↓m_i_b M3, m_p M3, ↓m_p_b M3, m_l M3, ↓m_l_b M3, m_pl M3, ↓m_pl_b M3, mr_15 M3, ↓mr_15_b M3, mr_16 M3, ↓mr_16_b M3, mr_17 M3, ↓mr_17_b M3, mr_18 M3, ↓mr_18_b M3, mr_21 M3, ↓mr_21_b M3, mr_22 M3, ↓mr_22_b M3, mr_23 M3, ↓mr_23_b M3, mr_24 M3, ↓mr_24_b M3, mr_25 M3, ↓mr_25_b M3, mr_30 M3, ↓mr_30_b M3, mr_31 M3, ↓mr_31_b M3, m90a M3, ↓m90a_b M3, m90s M3, ↓m90s_b M3, m91a M3, ↓m91a_b M3, m91s M3, ↓m91s_b M3, m92a M3, ↓m92a_b M3, m92s M3, ↓m92s_b M3, m93a M3, ↓m93a_b M3, m93s M3, ↓m93s_b M3, m94a M3, ↓m94a_b M3, m94s M3, ↓m94s_b M3, m95a M3, ↓m95a_b M3, m95s M3, ↓m95s_b M3, m96a M3, ↓m96a_b M3, m96s M3, ↓m96s_b M3, m97a M3, ↓m97a_b M3, m97s M3, ↓m97s_b M3, m98a M3, ↓m98a_b M3, m98s M3, ↓m98s_b M3, m99a M3, ↓m99a_b M3, m99s M3, ↓m99s_b M3, m100a M3, ↓m100a_b M3, m100s M3, ↓m100s_b M3, ↓bd_e (gg), gg, rv_1]
  · rw [if_neg c, if_neg c]
    refine da_r f0 H1 (by omega) (by omega) ?_
    by_cases cl : qL a 1 0 = 0
    · have eq : gQ (wF h 88 0 0) 88 13 3 = some none := by rw [gQ_J (MS_k M1), lk_0 H1 cl]
      try simp only [j_0, j_1, j_2, j_3, j_4, j_5, j_6, j_7, j_8, j_9, j_10, j_11, j_12, j_13, j_14, j_15, j_16, j_17, j_18, j_19, j_20, j_21, j_22, j_23, j_24, j_25, j_26, j_27, j_28, j_29, j_30, j_31, j_32, j_33, j_34, j_35, j_36, j_37, j_38, j_39, j_40, j_41, j_42, j_43, j_44, j_45, j_46, j_47, j_48, j_49, j_50, j_51, j_52, j_57, j_59, j_63, j_74, j_75, j_93, j_97, j_99, j_100, j_122, j_200, j_255, j_300, j_465, j_496, j_900, j_999, j_1000, j_65536, j_65537, j_99999, j_252645135, j_858993459, j_1431655765, k_0, k_1, k_27, k_32, k_74, k_75, k_100, k_1000, k_65537]
      simp (disch := first | with_reducible assumption | omega | trivial) only [↓bn_s1, ↓bd_s1, ↓ei_l1, ↓ei_r1, ↓bn_if, ↓ilt_1, ↓ilt_0, ↓ieq_1, ↓ieq_0, bn_s1, bd_s1, ei_l1, ei_r1, J_add, J_sub, J_mul, J_neg, J_lt, J_le, J_eq, dv_J, rm_J, if_pos, if_neg, ↓reduceIte, bitJ, shlJ, orJ, j_0, j_1, j_2, j_3, j_4, j_5, j_6, j_7, j_8, j_9, j_10, j_11, j_12, j_13, j_14, j_15, j_16, j_17, j_18, j_19, j_20, j_21, j_22, j_23, j_24, j_25, j_26, j_27, j_28, j_29, j_30, j_31, j_32, j_33, j_34, j_35, j_36, j_37, j_38, j_39, j_40, j_41, j_42, j_43, j_44, j_45, j_46, j_47, j_48, j_49, j_50, j_51, j_52, j_57, j_59, j_63, j_74, j_75, j_93, j_97, j_99, j_100, j_122, j_200, j_255, j_300, j_465, j_496, j_900, j_999, j_1000, j_65536, j_65537, j_99999, j_252645135, j_858993459, j_1431655765, k_0, k_1, k_27, k_32, k_74, k_75, k_100, k_1000, k_65537, ↓bn_e (pI_J kx), pI_J kx, ↓bn_e (eq), eq, ↓bd_e (gr 1), gr 1, rv_0]
    · obtain ⟨b, C1⟩ := lk_1 H1 cl
      have ne : ¬ (some b = none) := by intro x; cases x
      have eq : gQ (wF h 88 0 0) 88 13 3 = some (some b) := cl_q C1
      by_cases i0 : i < 0
      · try simp only [j_0, j_1, j_2, j_3, j_4, j_5, j_6, j_7, j_8, j_9, j_10, j_11, j_12, j_13, j_14, j_15, j_16, j_17, j_18, j_19, j_20, j_21, j_22, j_23, j_24, j_25, j_26, j_27, j_28, j_29, j_30, j_31, j_32, j_33, j_34, j_35, j_36, j_37, j_38, j_39, j_40, j_41, j_42, j_43, j_44, j_45, j_46, j_47, j_48, j_49, j_50, j_51, j_52, j_57, j_59, j_63, j_74, j_75, j_93, j_97, j_99, j_100, j_122, j_200, j_255, j_300, j_465, j_496, j_900, j_999, j_1000, j_65536, j_65537, j_99999, j_252645135, j_858993459, j_1431655765, k_0, k_1, k_27, k_32, k_74, k_75, k_100, k_1000, k_65537]
        simp (disch := first | with_reducible assumption | omega | trivial) only [↓bn_s1, ↓bd_s1, ↓ei_l1, ↓ei_r1, ↓bn_if, ↓ilt_1, ↓ilt_0, ↓ieq_1, ↓ieq_0, bn_s1, bd_s1, ei_l1, ei_r1, J_add, J_sub, J_mul, J_neg, J_lt, J_le, J_eq, dv_J, rm_J, if_pos, if_neg, ↓reduceIte, bitJ, shlJ, orJ, j_0, j_1, j_2, j_3, j_4, j_5, j_6, j_7, j_8, j_9, j_10, j_11, j_12, j_13, j_14, j_15, j_16, j_17, j_18, j_19, j_20, j_21, j_22, j_23, j_24, j_25, j_26, j_27, j_28, j_29, j_30, j_31, j_32, j_33, j_34, j_35, j_36, j_37, j_38, j_39, j_40, j_41, j_42, j_43, j_44, j_45, j_46, j_47, j_48, j_49, j_50, j_51, j_52, j_57, j_59, j_63, j_74, j_75, j_93, j_97, j_99, j_100, j_122, j_200, j_255, j_300, j_465, j_496, j_900, j_999, j_1000, j_65536, j_65537, j_99999, j_252645135, j_858993459, j_1431655765, k_0, k_1, k_27, k_32, k_74, k_75, k_100, k_1000, k_65537, ↓bn_e (pI_J kx), pI_J kx, ↓bn_e (eq), eq, ne, ↓bd_e (gr 1), gr 1, rv_0]
      · try simp only [j_0, j_1, j_2, j_3, j_4, j_5, j_6, j_7, j_8, j_9, j_10, j_11, j_12, j_13, j_14, j_15, j_16, j_17, j_18, j_19, j_20, j_21, j_22, j_23, j_24, j_25, j_26, j_27, j_28, j_29, j_30, j_31, j_32, j_33, j_34, j_35, j_36, j_37, j_38, j_39, j_40, j_41, j_42, j_43, j_44, j_45, j_46, j_47, j_48, j_49, j_50, j_51, j_52, j_57, j_59, j_63, j_74, j_75, j_93, j_97, j_99, j_100, j_122, j_200, j_255, j_300, j_465, j_496, j_900, j_999, j_1000, j_65536, j_65537, j_99999, j_252645135, j_858993459, j_1431655765, k_0, k_1, k_27, k_32, k_74, k_75, k_100, k_1000, k_65537]
        simp (disch := first | with_reducible assumption | omega | trivial) only [↓bn_s1, ↓bd_s1, ↓ei_l1, ↓ei_r1, ↓bn_if, ↓ilt_1, ↓ilt_0, ↓ieq_1, ↓ieq_0, bn_s1, bd_s1, ei_l1, ei_r1, J_add, J_sub, J_mul, J_neg, J_lt, J_le, J_eq, dv_J, rm_J, if_pos, if_neg, ↓reduceIte, bitJ, shlJ, orJ, j_0, j_1, j_2, j_3, j_4, j_5, j_6, j_7, j_8, j_9, j_10, j_11, j_12, j_13, j_14, j_15, j_16, j_17, j_18, j_19, j_20, j_21, j_22, j_23, j_24, j_25, j_26, j_27, j_28, j_29, j_30, j_31, j_32, j_33, j_34, j_35, j_36, j_37, j_38, j_39, j_40, j_41, j_42, j_43, j_44, j_45, j_46, j_47, j_48, j_49, j_50, j_51, j_52, j_57, j_59, j_63, j_74, j_75, j_93, j_97, j_99, j_100, j_122, j_200, j_255, j_300, j_465, j_496, j_900, j_999, j_1000, j_65536, j_65537, j_99999, j_252645135, j_858993459, j_1431655765, k_0, k_1, k_27, k_32, k_74, k_75, k_100, k_1000, k_65537, ↓bn_e (pI_J kx), pI_J kx, ↓bn_e (eq), eq, ne, m_i M1, ↓m_i_b M1, m_p M1, ↓m_p_b M1, m_l M1, ↓m_l_b M1, m_pl M1, ↓m_pl_b M1, mr_15 M1, ↓mr_15_b M1, mr_16 M1, ↓mr_16_b M1, mr_17 M1, ↓mr_17_b M1, mr_18 M1, ↓mr_18_b M1, mr_21 M1, ↓mr_21_b M1, mr_22 M1, ↓mr_22_b M1, mr_23 M1, ↓mr_23_b M1, mr_24 M1, ↓mr_24_b M1, mr_25 M1, ↓mr_25_b M1, mr_30 M1, ↓mr_30_b M1, mr_31 M1, ↓mr_31_b M1, m90a M1, ↓m90a_b M1, m90s M1, ↓m90s_b M1, m91a M1, ↓m91a_b M1, m91s M1, ↓m91s_b M1, m92a M1, ↓m92a_b M1, m92s M1, ↓m92s_b M1, m93a M1, ↓m93a_b M1, m93s M1, ↓m93s_b M1, m94a M1, ↓m94a_b M1, m94s M1, ↓m94s_b M1, m95a M1, ↓m95a_b M1, m95s M1, ↓m95s_b M1, m96a M1, ↓m96a_b M1, m96s M1, ↓m96s_b M1, m97a M1, ↓m97a_b M1, m97s M1, ↓m97s_b M1, m98a M1, ↓m98a_b M1, m98s M1, ↓m98s_b M1, m99a M1, ↓m99a_b M1, m99s M1, ↓m99s_b M1, m100a M1, ↓m100a_b M1, m100s M1, ↓m100s_b M1, v20, ↓bd_e (gr 1), gr 1, rv_0]
