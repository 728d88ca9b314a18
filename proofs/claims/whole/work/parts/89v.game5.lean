theorem rmN {a b : Nat} (hb : 0 < b) (h1 : a < 1000000) (h2 : b < 1000000) : rm32 (J a) (J b) = some (J ((a % b : Nat) : Int)) := by
  rw [rm_J (by omega) (by omega) (by omega) (by omega), Int.tmod_eq_emod_of_nonneg (by omega)]
  rfl
theorem dvN {a b : Nat} (hb : 0 < b) (h1 : a < 1000000) (h2 : b < 1000000) : dv (J a) (J b) = some (J ((a / b : Nat) : Int)) := by
  rw [dv_J (by omega) (by omega) (by omega) (by omega), Int.tdiv_eq_ediv_of_nonneg (by omega)]
  rfl
theorem D_choices {L : Lk} {b : Nat} {h : Hp} {k : Nat} (HL : LW L) (C : RC L b h) (hk : k ≤ 10) : F_md_choices 88 (J k) h = some (J (ch L k : Nat)) := by
  have b1 := LW_h HL
  have b2 := LW_r HL
  have hne := hn_e HL
  have rne := rn_e HL
  have rm := rmN (a := k) (b := 2) (by omega) (by omega) (by omega)
  replace rm : rm32 (J k) (J 2) = some (J ((k % 2 : Nat) : Int)) := rm
  unfold F_md_choices ch
  rw [ck_e (MS_k C.1)]
  by_cases c : k % 2 = 0
  · rw [if_pos c]
    have e : L 2 0 + 1 = ((rn L + 1 : Nat) : Int) := by omega
    try simp only [j_0, j_1, j_2, j_3, j_4, j_5, j_6, j_7, j_8, j_9, j_10, j_11, j_12, j_13, j_14, j_15, j_16, j_17, j_18, j_19, j_20, j_21, j_22, j_23, j_24, j_25, j_26, j_27, j_28, j_29, j_30, j_31, j_32, j_33, j_34, j_35, j_36, j_37, j_38, j_39, j_40, j_41, j_42, j_43, j_44, j_45, j_46, j_47, j_48, j_49, j_50, j_51, j_52, j_57, j_59, j_63, j_74, j_75, j_93, j_97, j_99, j_100, j_122, j_200, j_255, j_300, j_465, j_496, j_900, j_999, j_1000, j_65536, j_65537, j_99999, j_252645135, j_858993459, j_1431655765, k_0, k_1, k_27, k_32, k_74, k_75, k_100, k_1000, k_65537]
    simp (disch := first | with_reducible assumption | omega | trivial) only [↓bn_s1, ↓bd_s1, ↓ei_l1, ↓ei_r1, ↓bn_if, ↓ilt_1, ↓ilt_0, ↓ieq_1, ↓ieq_0, bn_s1, bd_s1, ei_l1, ei_r1, J_add, J_sub, J_mul, J_neg, J_lt, J_le, J_eq, dv_J, if_pos, if_neg, ↓reduceIte, bitJ, shlJ, orJ, j_0, j_1, j_2, j_3, j_4, j_5, j_6, j_7, j_8, j_9, j_10, j_11, j_12, j_13, j_14, j_15, j_16, j_17, j_18, j_19, j_20, j_21, j_22, j_23, j_24, j_25, j_26, j_27, j_28, j_29, j_30, j_31, j_32, j_33, j_34, j_35, j_36, j_37, j_38, j_39, j_40, j_41, j_42, j_43, j_44, j_45, j_46, j_47, j_48, j_49, j_50, j_51, j_52, j_57, j_59, j_63, j_74, j_75, j_93, j_97, j_99, j_100, j_122, j_200, j_255, j_300, j_465, j_496, j_900, j_999, j_1000, j_65536, j_65537, j_99999, j_252645135, j_858993459, j_1431655765, k_0, k_1, k_27, k_32, k_74, k_75, k_100, k_1000, k_65537, ↓bn_e (rm), rm, cl_r C, ↓cl_r_b C, cl_q C, ↓cl_q_b C, ci_0 C, ↓ci_0_b C, ci_1 C, ↓ci_1_b C, ci_2 C, ↓ci_2_b C, ci_3 C, ↓ci_3_b C, ci_4 C, ↓ci_4_b C, ci_5 C, ↓ci_5_b C, ci_6 C, ↓ci_6_b C, ci_7 C, ↓ci_7_b C, cr_9 C, ↓cr_9_b C, cr_10 C, ↓cr_10_b C, cr_11 C, ↓cr_11_b C, cr_13 C, ↓cr_13_b C, cr_14 C, ↓cr_14_b C, cr_15 C, ↓cr_15_b C, cr_16 C, ↓cr_16_b C, cr_17 C, ↓cr_17_b C, cr_18 C, ↓cr_18_b C, cr_19 C, ↓cr_19_b C, cr_20 C, ↓cr_20_b C, cr_21 C, ↓cr_21_b C, cr_22 C, ↓cr_22_b C, cr_23 C, ↓cr_23_b C, cr_24 C, ↓cr_24_b C, cr_25 C, ↓cr_25_b C, cr_26 C, ↓cr_26_b C, ca_9 HL C, ↓ca_9_b HL C, ca_10 HL C, ↓ca_10_b HL C, ca_11 HL C, ↓ca_11_b HL C, ca_13 HL C, ↓ca_13_b HL C, ca_14 HL C, ↓ca_14_b HL C, ca_15 HL C, ↓ca_15_b HL C, ca_16 HL C, ↓ca_16_b HL C, ca_17 HL C, ↓ca_17_b HL C, ca_18 HL C, ↓ca_18_b HL C, ca_19 HL C, ↓ca_19_b HL C, ca_20 HL C, ↓ca_20_b HL C, ca_21 HL C, ↓ca_21_b HL C, ca_22 HL C, ↓ca_22_b HL C, ca_23 HL C, ↓ca_23_b HL C, ca_24 HL C, ↓ca_24_b HL C, ca_25 HL C, ↓ca_25_b HL C, ca_26 HL C, ↓ca_26_b HL C, m_i C.1, ↓m_i_b C.1, m_p C.1, ↓m_p_b C.1, m_l C.1, ↓m_l_b C.1, m_pl C.1, ↓m_pl_b C.1, mr_15 C.1, ↓mr_15_b C.1, mr_16 C.1, ↓mr_16_b C.1, mr_17 C.1, ↓mr_17_b C.1, mr_18 C.1, ↓mr_18_b C.1, mr_21 C.1, ↓mr_21_b C.1, mr_22 C.1, ↓mr_22_b C.1, mr_23 C.1, ↓mr_23_b C.1, mr_24 C.1, ↓mr_24_b C.1, mr_25 C.1, ↓mr_25_b C.1, mr_30 C.1, ↓mr_30_b C.1, mr_31 C.1, ↓mr_31_b C.1, e]
  · rw [if_neg c]
    try simp only [j_0, j_1, j_2, j_3, j_4, j_5, j_6, j_7, j_8, j_9, j_10, j_11, j_12, j_13, j_14, j_15, j_16, j_17, j_18, j_19, j_20, j_21, j_22, j_23, j_24, j_25, j_26, j_27, j_28, j_29, j_30, j_31, j_32, j_33, j_34, j_35, j_36, j_37, j_38, j_39, j_40, j_41, j_42, j_43, j_44, j_45, j_46, j_47, j_48, j_49, j_50, j_51, j_52, j_57, j_59, j_63, j_74, j_75, j_93, j_97, j_99, j_100, j_122, j_200, j_255, j_300, j_465, j_496, j_900, j_999, j_1000, j_65536, j_65537, j_99999, j_252645135, j_858993459, j_1431655765, k_0, k_1, k_27, k_32, k_74, k_75, k_100, k_1000, k_65537]
    simp (disch := first | with_reducible assumption | omega | trivial) only [↓bn_s1, ↓bd_s1, ↓ei_l1, ↓ei_r1, ↓bn_if, ↓ilt_1, ↓ilt_0, ↓ieq_1, ↓ieq_0, bn_s1, bd_s1, ei_l1, ei_r1, J_add, J_sub, J_mul, J_neg, J_lt, J_le, J_eq, dv_J, if_pos, if_neg, ↓reduceIte, bitJ, shlJ, orJ, j_0, j_1, j_2, j_3, j_4, j_5, j_6, j_7, j_8, j_9, j_10, j_11, j_12, j_13, j_14, j_15, j_16, j_17, j_18, j_19, j_20, j_21, j_22, j_23, j_24, j_25, j_26, j_27, j_28, j_29, j_30, j_31, j_32, j_33, j_34, j_35, j_36, j_37, j_38, j_39, j_40, j_41, j_42, j_43, j_44, j_45, j_46, j_47, j_48, j_49, j_50, j_51, j_52, j_57, j_59, j_63, j_74, j_75, j_93, j_97, j_99, j_100, j_122, j_200, j_255, j_300, j_465, j_496, j_900, j_999, j_1000, j_65536, j_65537, j_99999, j_252645135, j_858993459, j_1431655765, k_0, k_1, k_27, k_32, k_74, k_75, k_100, k_1000, k_65537, ↓bn_e (rm), rm, cl_r C, ↓cl_r_b C, cl_q C, ↓cl_q_b C, ci_0 C, ↓ci_0_b C, ci_1 C, ↓ci_1_b C, ci_2 C, ↓ci_2_b C, ci_3 C, ↓ci_3_b C, ci_4 C, ↓ci_4_b C, ci_5 C, ↓ci_5_b C, ci_6 C, ↓ci_6_b C, ci_7 C, ↓ci_7_b C, cr_9 C, ↓cr_9_b C, cr_10 C, ↓cr_10_b C, cr_11 C, ↓cr_11_b C, cr_13 C, ↓cr_13_b C, cr_14 C, ↓cr_14_b C, cr_15 C, ↓cr_15_b C, cr_16 C, ↓cr_16_b C, cr_17 C, ↓cr_17_b C, cr_18 C, ↓cr_18_b C, cr_19 C, ↓cr_19_b C, cr_20 C, ↓cr_20_b C, cr_21 C, ↓cr_21_b C, cr_22 C, ↓cr_22_b C, cr_23 C, ↓cr_23_b C, cr_24 C, ↓cr_24_b C, cr_25 C, ↓cr_25_b C, cr_26 C, ↓cr_26_b C, ca_9 HL C, ↓ca_9_b HL C, ca_10 HL C, ↓ca_10_b HL C, ca_11 HL C, ↓ca_11_b HL C, ca_13 HL C, ↓ca_13_b HL C, ca_14 HL C, ↓ca_14_b HL C, ca_15 HL C, ↓ca_15_b HL C, ca_16 HL C, ↓ca_16_b HL C, ca_17 HL C, ↓ca_17_b HL C, ca_18 HL C, ↓ca_18_b HL C, ca_19 HL C, ↓ca_19_b HL C, ca_20 HL C, ↓ca_20_b HL C, ca_21 HL C, ↓ca_21_b HL C, ca_22 HL C, ↓ca_22_b HL C, ca_23 HL C, ↓ca_23_b HL C, ca_24 HL C, ↓ca_24_b HL C, ca_25 HL C, ↓ca_25_b HL C, ca_26 HL C, ↓ca_26_b HL C, m_i C.1, ↓m_i_b C.1, m_p C.1, ↓m_p_b C.1, m_l C.1, ↓m_l_b C.1, m_pl C.1, ↓m_pl_b C.1, mr_15 C.1, ↓mr_15_b C.1, mr_16 C.1, ↓mr_16_b C.1, mr_17 C.1, ↓mr_17_b C.1, mr_18 C.1, ↓mr_18_b C.1, mr_21 C.1, ↓mr_21_b C.1, mr_22 C.1, ↓mr_22_b C.1, mr_23 C.1, ↓mr_23_b C.1, mr_24 C.1, ↓mr_24_b C.1, mr_25 C.1, ↓mr_25_b C.1, mr_30 C.1, ↓mr_30_b C.1, mr_31 C.1, ↓mr_31_b C.1, hne]
/-- what is afloat after the moves of row 100 -/
theorem D_afloat {a : Ab} {h : Hp} {n : Nat} {mv : Nat → Nat} {Sm : Nat → Sk} (HA : AW a) (H : RQ a h) (c : ¬ qL a 1 0 = 0) (hn' : n ≤ 4) (hm : ∀ k, k < n → ia h 100 k = (mv k : Nat) ∧ mv k < ch (qL a) k) (h0 : Sm 0 = qS a) (hs : ∀ k, k < n → Sm (k + 1) = stp (Sm k) k (mv k)) : ∃ h', F_md_afloat 88 (J n) h = some (J (dryO (qL a) (net (qL a) (Sm n)) (Sm n 28).toNat), h') ∧ Fm 91 92 h h' := by
  have HL := HA.1
  have b1 := LW_h HL
  have b2 := LW_r HL
  have hne := hn_e HL
  have rne := rn_e HL
  obtain ⟨b, C⟩ := lkq_1 H c
  have sw := HA.2.1.1
  have skk : ∀ k, k ≤ n → sk (qL a) k (Sm k) := by
    intro k
    induction k with
    | zero => intro _; rw [h0]; exact ⟨fun i i0 i1 => by have := sw.1 i i0 i1; omega, sw.2.2.1, sw.2.2.2.1, sw.2.2.2.2.1⟩
    | succ k ih => intro hk; rw [hs k (by omega)]; exact sk_stp HL (ih (by omega)) (hm k (by omega)).2
  obtain ⟨h1, e1, f1, x1⟩ := D_works H.1 (S := qS a) H.2.2
  obtain ⟨y, h2, e2, f2, x2⟩ := lp_for (b := B_md_afloat_6 88 (J n)) (f := FU) (s := J 0) (h := h1) (fun k s h' => s = J k ∧ Fm 91 92 h h' ∧ XR (Sm k) h') (fun _ h' => Fm 91 92 h h' ∧ XR (Sm n) h') n (by unfold FU; omega) ⟨rfl, f1, by rw [h0]; exact x1⟩ (fun k s h2 hk hI => by
      obtain ⟨rfl, f2, x2⟩ := hI
      have C2 := RC_fm f2 (by omega) C
      have M2 := C2.1
      have sk' := skk k (by omega)
      have hmk := hm k hk
      have vk : ia h2 100 k = (mv k : Nat) := by rw [fm_ia f2 (by omega)]; exact hmk.1
      have es := hs k hk
      unfold stp at es
      have cb := hmk.2
      unfold ch at cb
      have rm := rmN (a := k) (b := 2) (by omega) (by omega) (by omega)
      replace rm : rm32 (J k) (J 2) = some (J ((k % 2 : Nat) : Int)) := rm
      by_cases ko : k % 2 = 1
      · rw [if_neg (by omega)] at cb
        rw [if_pos ko] at es
        have ce := cell_e (mv k : Nat) 3
        have w := sk'.1 (5 * (mv k : Int) + 3) (by omega) (by omega)
        have x3 := XR_w M2 x2 (z := 5 * (mv k : Int) + 3) (v := Sm k (5 * (mv k : Int) + 3) + 1) (by omega) (by omega) (by omega)
        have v3 := x2 (5 * (mv k : Int) + 3) (by omega) (by omega)
        refine ⟨J (k + 1 : Nat), _, ?_, rfl, fm_tr f2 (fm_wA (a := 91) (z := 5 * (mv k : Int) + 3) (v := Sm k (5 * (mv k : Int) + 3) + 1) (by omega) (by omega)), by rw [es]; exact x3⟩
        unfold B_md_afloat_6
        try simp only [j_0, j_1, j_2, j_3, j_4, j_5, j_6, j_7, j_8, j_9, j_10, j_11, j_12, j_13, j_14, j_15, j_16, j_17, j_18, j_19, j_20, j_21, j_22, j_23, j_24, j_25, j_26, j_27, j_28, j_29, j_30, j_31, j_32, j_33, j_34, j_35, j_36, j_37, j_38, j_39, j_40, j_41, j_42, j_43, j_44, j_45, j_46, j_47, j_48, j_49, j_50, j_51, j_52, j_57, j_59, j_63, j_74, j_75, j_93, j_97, j_99, j_100, j_122, j_200, j_255, j_300, j_465, j_496, j_900, j_999, j_1000, j_65536, j_65537, j_99999, j_252645135, j_858993459, j_1431655765, k_0, k_1, k_27, k_32, k_74, k_75, k_100, k_1000, k_65537]
        simp (disch := first | with_reducible assumption | omega | trivial) only [↓bn_s1, ↓bd_s1, ↓ei_l1, ↓ei_r1, ↓bn_if, ↓ilt_1, ↓ilt_0, ↓ieq_1, ↓ieq_0, bn_s1, bd_s1, ei_l1, ei_r1, J_add, J_sub, J_mul, J_neg, J_lt, J_le, J_eq, dv_J, if_pos, if_neg, ↓reduceIte, bitJ, shlJ, orJ, j_0, j_1, j_2, j_3, j_4, j_5, j_6, j_7, j_8, j_9, j_10, j_11, j_12, j_13, j_14, j_15, j_16, j_17, j_18, j_19, j_20, j_21, j_22, j_23, j_24, j_25, j_26, j_27, j_28, j_29, j_30, j_31, j_32, j_33, j_34, j_35, j_36, j_37, j_38, j_39, j_40, j_41, j_42, j_43, j_44, j_45, j_46, j_47, j_48, j_49, j_50, j_51, j_52, j_57, j_59, j_63, j_74, j_75, j_93, j_97, j_99, j_100, j_122, j_200, j_255, j_300, j_465, j_496, j_900, j_999, j_1000, j_65536, j_65537, j_99999, j_252645135, j_858993459, j_1431655765, k_0, k_1, k_27, k_32, k_74, k_75, k_100, k_1000, k_65537, ↓bn_e (rm), rm, ko, m_i M2, ↓m_i_b M2, m_p M2, ↓m_p_b M2, m_l M2, ↓m_l_b M2, m_pl M2, ↓m_pl_b M2, mr_15 M2, ↓mr_15_b M2, mr_16 M2, ↓mr_16_b M2, mr_17 M2, ↓mr_17_b M2, mr_18 M2, ↓mr_18_b M2, mr_21 M2, ↓mr_21_b M2, mr_22 M2, ↓mr_22_b M2, mr_23 M2, ↓mr_23_b M2, mr_24 M2, ↓mr_24_b M2, mr_25 M2, ↓mr_25_b M2, mr_30 M2, ↓mr_30_b M2, mr_31 M2, ↓mr_31_b M2, m90a M2, ↓m90a_b M2, m90s M2, ↓m90s_b M2, m91a M2, ↓m91a_b M2, m91s M2, ↓m91s_b M2, m92a M2, ↓m92a_b M2, m92s M2, ↓m92s_b M2, m93a M2, ↓m93a_b M2, m93s M2, ↓m93s_b M2, m94a M2, ↓m94a_b M2, m94s M2, ↓m94s_b M2, m95a M2, ↓m95a_b M2, m95s M2, ↓m95s_b M2, m96a M2, ↓m96a_b M2, m96s M2, ↓m96s_b M2, m97a M2, ↓m97a_b M2, m97s M2, ↓m97s_b M2, m98a M2, ↓m98a_b M2, m98s M2, ↓m98s_b M2, m99a M2, ↓m99a_b M2, m99s M2, ↓m99s_b M2, m100a M2, ↓m100a_b M2, m100s M2, ↓m100s_b M2, vk, ↓bn_e (ce), ce, v3]
        rfl
      · rw [if_pos (by omega)] at cb
        rw [if_neg ko] at es
        by_cases m0 : mv k = 0
        · rw [if_pos m0] at es
          refine ⟨J (k + 1 : Nat), h2, ?_, rfl, f2, by rw [es]; exact x2⟩
          unfold B_md_afloat_6
          try simp only [j_0, j_1, j_2, j_3, j_4, j_5, j_6, j_7, j_8, j_9, j_10, j_11, j_12, j_13, j_14, j_15, j_16, j_17, j_18, j_19, j_20, j_21, j_22, j_23, j_24, j_25, j_26, j_27, j_28, j_29, j_30, j_31, j_32, j_33, j_34, j_35, j_36, j_37, j_38, j_39, j_40, j_41, j_42, j_43, j_44, j_45, j_46, j_47, j_48, j_49, j_50, j_51, j_52, j_57, j_59, j_63, j_74, j_75, j_93, j_97, j_99, j_100, j_122, j_200, j_255, j_300, j_465, j_496, j_900, j_999, j_1000, j_65536, j_65537, j_99999, j_252645135, j_858993459, j_1431655765, k_0, k_1, k_27, k_32, k_74, k_75, k_100, k_1000, k_65537]
          simp (disch := first | with_reducible assumption | omega | trivial) only [↓bn_s1, ↓bd_s1, ↓ei_l1, ↓ei_r1, ↓bn_if, ↓ilt_1, ↓ilt_0, ↓ieq_1, ↓ieq_0, bn_s1, bd_s1, ei_l1, ei_r1, J_add, J_sub, J_mul, J_neg, J_lt, J_le, J_eq, dv_J, if_pos, if_neg, ↓reduceIte, bitJ, shlJ, orJ, j_0, j_1, j_2, j_3, j_4, j_5, j_6, j_7, j_8, j_9, j_10, j_11, j_12, j_13, j_14, j_15, j_16, j_17, j_18, j_19, j_20, j_21, j_22, j_23, j_24, j_25, j_26, j_27, j_28, j_29, j_30, j_31, j_32, j_33, j_34, j_35, j_36, j_37, j_38, j_39, j_40, j_41, j_42, j_43, j_44, j_45, j_46, j_47, j_48, j_49, j_50, j_51, j_52, j_57, j_59, j_63, j_74, j_75, j_93, j_97, j_99, j_100, j_122, j_200, j_255, j_300, j_465, j_496, j_900, j_999, j_1000, j_65536, j_65537, j_99999, j_252645135, j_858993459, j_1431655765, k_0, k_1, k_27, k_32, k_74, k_75, k_100, k_1000, k_65537, ↓bn_e (rm), rm, m_i M2, ↓m_i_b M2, m_p M2, ↓m_p_b M2, m_l M2, ↓m_l_b M2, m_pl M2, ↓m_pl_b M2, mr_15 M2, ↓mr_15_b M2, mr_16 M2, ↓mr_16_b M2, mr_17 M2, ↓mr_17_b M2, mr_18 M2, ↓mr_18_b M2, mr_21 M2, ↓mr_21_b M2, mr_22 M2, ↓mr_22_b M2, mr_23 M2, ↓mr_23_b M2, mr_24 M2, ↓mr_24_b M2, mr_25 M2, ↓mr_25_b M2, mr_30 M2, ↓mr_30_b M2, mr_31 M2, ↓mr_31_b M2, m90a M2, ↓m90a_b M2, m90s M2, ↓m90s_b M2, m91a M2, ↓m91a_b M2, m91s M2, ↓m91s_b M2, m92a M2, ↓m92a_b M2, m92s M2, ↓m92s_b M2, m93a M2, ↓m93a_b M2, m93s M2, ↓m93s_b M2, m94a M2, ↓m94a_b M2, m94s M2, ↓m94s_b M2, m95a M2, ↓m95a_b M2, m95s M2, ↓m95s_b M2, m96a M2, ↓m96a_b M2, m96s M2, ↓m96s_b M2, m97a M2, ↓m97a_b M2, m97s M2, ↓m97s_b M2, m98a M2, ↓m98a_b M2, m98s M2, ↓m98s_b M2, m99a M2, ↓m99a_b M2, m99s M2, ↓m99s_b M2, m100a M2, ↓m100a_b M2, m100s M2, ↓m100s_b M2, vk, m0]
          rfl
        · rw [if_neg m0] at es
          obtain ⟨cN, hcN⟩ := Int.eq_ofNat_of_zero_le sk'.2.2.1
          have hc : (Sm k 28).toNat = cN := by omega
          have cl := sk'.2.2.2
          rw [hc] at es cl
          have hl := or_lt (rn (qL a)) (by omega) cN cl (mv k - 1) (by omega)
          have p5 : 2 ^ rn (qL a) ≤ 2 ^ 5 := Nat.pow_le_pow_right (by decide) (by omega)
          have pm := pw5 (mv k - 1) (by omega)
          have v3 := x2 28 (by omega) (by omega)
          have em : ((mv k : Nat) : Int) - 1 = ((mv k - 1 : Nat) : Int) := by omega
          have x3 := XR_w M2 x2 (z := 28) (v := ((cN ||| 2 ^ (mv k - 1) : Nat) : Int)) (by omega) (by omega) (by omega)
          refine ⟨J (k + 1 : Nat), _, ?_, rfl, fm_tr f2 (fm_wA (a := 91) (z := 28) (v := ((cN ||| 2 ^ (mv k - 1) : Nat) : Int)) (by omega) (by omega)), by rw [es]; exact x3⟩
          unfold B_md_afloat_6
          try simp only [j_0, j_1, j_2, j_3, j_4, j_5, j_6, j_7, j_8, j_9, j_10, j_11, j_12, j_13, j_14, j_15, j_16, j_17, j_18, j_19, j_20, j_21, j_22, j_23, j_24, j_25, j_26, j_27, j_28, j_29, j_30, j_31, j_32, j_33, j_34, j_35, j_36, j_37, j_38, j_39, j_40, j_41, j_42, j_43, j_44, j_45, j_46, j_47, j_48, j_49, j_50, j_51, j_52, j_57, j_59, j_63, j_74, j_75, j_93, j_97, j_99, j_100, j_122, j_200, j_255, j_300, j_465, j_496, j_900, j_999, j_1000, j_65536, j_65537, j_99999, j_252645135, j_858993459, j_1431655765, k_0, k_1, k_27, k_32, k_74, k_75, k_100, k_1000, k_65537]
          simp (disch := first | with_reducible assumption | omega | trivial) only [↓bn_s1, ↓bd_s1, ↓ei_l1, ↓ei_r1, ↓bn_if, ↓ilt_1, ↓ilt_0, ↓ieq_1, ↓ieq_0, bn_s1, bd_s1, ei_l1, ei_r1, J_add, J_sub, J_mul, J_neg, J_lt, J_le, J_eq, dv_J, if_pos, if_neg, ↓reduceIte, bitJ, shlJ, orJ, j_0, j_1, j_2, j_3, j_4, j_5, j_6, j_7, j_8, j_9, j_10, j_11, j_12, j_13, j_14, j_15, j_16, j_17, j_18, j_19, j_20, j_21, j_22, j_23, j_24, j_25, j_26, j_27, j_28, j_29, j_30, j_31, j_32, j_33, j_34, j_35, j_36, j_37, j_38, j_39, j_40, j_41, j_42, j_43, j_44, j_45, j_46, j_47, j_48, j_49, j_50, j_51, j_52, j_57, j_59, j_63, j_74, j_75, j_93, j_97, j_99, j_100, j_122, j_200, j_255, j_300, j_465, j_496, j_900, j_999, j_1000, j_65536, j_65537, j_99999, j_252645135, j_858993459, j_1431655765, k_0, k_1, k_27, k_32, k_74, k_75, k_100, k_1000, k_65537, ↓bn_e (rm), rm, m_i M2, ↓m_i_b M2, m_p M2, ↓m_p_b M2, m_l M2, ↓m_l_b M2, m_pl M2, ↓m_pl_b M2, mr_15 M2, ↓mr_15_b M2, mr_16 M2, ↓mr_16_b M2, mr_17 M2, ↓mr_17_b M2, mr_18 M2, ↓mr_18_b M2, mr_21 M2, ↓mr_21_b M2, mr_22 M2, ↓mr_22_b M2, mr_23 M2, ↓mr_23_b M2, mr_24 M2, ↓mr_24_b M2, mr_25 M2, ↓mr_25_b M2, mr_30 M2, ↓mr_30_b M2, mr_31 M2, ↓mr_31_b M2, m90a M2, ↓m90a_b M2, m90s M2, ↓m90s_b M2, m91a M2, ↓m91a_b M2, m91s M2, ↓m91s_b M2, m92a M2, ↓m92a_b M2, m92s M2, ↓m92s_b M2, m93a M2, ↓m93a_b M2, m93s M2, ↓m93s_b M2, m94a M2, ↓m94a_b M2, m94s M2, ↓m94s_b M2, m95a M2, ↓m95a_b M2, m95s M2, ↓m95s_b M2, m96a M2, ↓m96a_b M2, m96s M2, ↓m96s_b M2, m97a M2, ↓m97a_b M2, m97s M2, ↓m97s_b M2, m98a M2, ↓m98a_b M2, m98s M2, ↓m98s_b M2, m99a M2, ↓m99a_b M2, m99s M2, ↓m99s_b M2, m100a M2, ↓m100a_b M2, m100s M2, ↓m100s_b M2, vk, v3, hcN, em]
          rfl) (fun s h2 hI => by
      obtain ⟨rfl, f2, x2⟩ := hI
      refine ⟨(), h2, ?_, f2, x2⟩
      unfold B_md_afloat_6
      try simp only [j_0, j_1, j_2, j_3, j_4, j_5, j_6, j_7, j_8, j_9, j_10, j_11, j_12, j_13, j_14, j_15, j_16, j_17, j_18, j_19, j_20, j_21, j_22, j_23, j_24, j_25, j_26, j_27, j_28, j_29, j_30, j_31, j_32, j_33, j_34, j_35, j_36, j_37, j_38, j_39, j_40, j_41, j_42, j_43, j_44, j_45, j_46, j_47, j_48, j_49, j_50, j_51, j_52, j_57, j_59, j_63, j_74, j_75, j_93, j_97, j_99, j_100, j_122, j_200, j_255, j_300, j_465, j_496, j_900, j_999, j_1000, j_65536, j_65537, j_99999, j_252645135, j_858993459, j_1431655765, k_0, k_1, k_27, k_32, k_74, k_75, k_100, k_1000, k_65537]
      simp (disch := first | with_reducible assumption | omega | trivial) only [↓bn_s1, ↓bd_s1, ↓ei_l1, ↓ei_r1, ↓bn_if, ↓ilt_1, ↓ilt_0, ↓ieq_1, ↓ieq_0, bn_s1, bd_s1, ei_l1, ei_r1, J_add, J_sub, J_mul, J_neg, J_lt, J_le, J_eq, dv_J, if_pos, if_neg, ↓reduceIte, bitJ, shlJ, orJ, j_0, j_1, j_2, j_3, j_4, j_5, j_6, j_7, j_8, j_9, j_10, j_11, j_12, j_13, j_14, j_15, j_16, j_17, j_18, j_19, j_20, j_21, j_22, j_23, j_24, j_25, j_26, j_27, j_28, j_29, j_30, j_31, j_32, j_33, j_34, j_35, j_36, j_37, j_38, j_39, j_40, j_41, j_42, j_43, j_44, j_45, j_46, j_47, j_48, j_49, j_50, j_51, j_52, j_57, j_59, j_63, j_74, j_75, j_93, j_97, j_99, j_100, j_122, j_200, j_255, j_300, j_465, j_496, j_900, j_999, j_1000, j_65536, j_65537, j_99999, j_252645135, j_858993459, j_1431655765, k_0, k_1, k_27, k_32, k_74, k_75, k_100, k_1000, k_65537])
  have C2 := RC_fm f2 (by omega) C
  have eu := D_underNow HL C2 x2 (sk_stk (by omega) (skk n (Nat.le_refl _)))
  have eb := bits_e (und (hgt (qL a) (Sm n)) (hn (qL a))) (und_32 _ (by omega))
  refine ⟨h2, ?_, f2⟩
  unfold F_md_afloat
  rw [ck_e (MS_k C.1)]
  try simp only [j_0, j_1, j_2, j_3, j_4, j_5, j_6, j_7, j_8, j_9, j_10, j_11, j_12, j_13, j_14, j_15, j_16, j_17, j_18, j_19, j_20, j_21, j_22, j_23, j_24, j_25, j_26, j_27, j_28, j_29, j_30, j_31, j_32, j_33, j_34, j_35, j_36, j_37, j_38, j_39, j_40, j_41, j_42, j_43, j_44, j_45, j_46, j_47, j_48, j_49, j_50, j_51, j_52, j_57, j_59, j_63, j_74, j_75, j_93, j_97, j_99, j_100, j_122, j_200, j_255, j_300, j_465, j_496, j_900, j_999, j_1000, j_65536, j_65537, j_99999, j_252645135, j_858993459, j_1431655765, k_0, k_1, k_27, k_32, k_74, k_75, k_100, k_1000, k_65537]
  simp (disch := first | with_reducible assumption | omega | trivial) only [↓bn_s1, ↓bd_s1, ↓ei_l1, ↓ei_r1, ↓bn_if, ↓ilt_1, ↓ilt_0, ↓ieq_1, ↓ieq_0, bn_s1, bd_s1, ei_l1, ei_r1, J_add, J_sub, J_mul, J_neg, J_lt, J_le, J_eq, dv_J, if_pos, if_neg, ↓reduceIte, bitJ, shlJ, orJ, j_0, j_1, j_2, j_3, j_4, j_5, j_6, j_7, j_8, j_9, j_10, j_11, j_12, j_13, j_14, j_15, j_16, j_17, j_18, j_19, j_20, j_21, j_22, j_23, j_24, j_25, j_26, j_27, j_28, j_29, j_30, j_31, j_32, j_33, j_34, j_35, j_36, j_37, j_38, j_39, j_40, j_41, j_42, j_43, j_44, j_45, j_46, j_47, j_48, j_49, j_50, j_51, j_52, j_57, j_59, j_63, j_74, j_75, j_93, j_97, j_99, j_100, j_122, j_200, j_255, j_300, j_465, j_496, j_900, j_999, j_1000, j_65536, j_65537, j_99999, j_252645135, j_858993459, j_1431655765, k_0, k_1, k_27, k_32, k_74, k_75, k_100, k_1000, k_65537, ↓bn_e (e1), e1, ↓bd_e (e2), e2, cl_r C2, ↓cl_r_b C2, cl_q C2, ↓cl_q_b C2, ci_0 C2, ↓ci_0_b C2, ci_1 C2, ↓ci_1_b C2, ci_2 C2, ↓ci_2_b C2, ci_3 C2, ↓ci_3_b C2, ci_4 C2, ↓ci_4_b C2, ci_5 C2, ↓ci_5_b C2, ci_6 C2, ↓ci_6_b C2, ci_7 C2, ↓ci_7_b C2, cr_9 C2, ↓cr_9_b C2, cr_10 C2, ↓cr_10_b C2, cr_11 C2, ↓cr_11_b C2, cr_13 C2, ↓cr_13_b C2, cr_14 C2, ↓cr_14_b C2, cr_15 C2, ↓cr_15_b C2, cr_16 C2, ↓cr_16_b C2, cr_17 C2, ↓cr_17_b C2, cr_18 C2, ↓cr_18_b C2, cr_19 C2, ↓cr_19_b C2, cr_20 C2, ↓cr_20_b C2, cr_21 C2, ↓cr_21_b C2, cr_22 C2, ↓cr_22_b C2, cr_23 C2, ↓cr_23_b C2, cr_24 C2, ↓cr_24_b C2, cr_25 C2, ↓cr_25_b C2, cr_26 C2, ↓cr_26_b C2, ca_9 HL C2, ↓ca_9_b HL C2, ca_10 HL C2, ↓ca_10_b HL C2, ca_11 HL C2, ↓ca_11_b HL C2, ca_13 HL C2, ↓ca_13_b HL C2, ca_14 HL C2, ↓ca_14_b HL C2, ca_15 HL C2, ↓ca_15_b HL C2, ca_16 HL C2, ↓ca_16_b HL C2, ca_17 HL C2, ↓ca_17_b HL C2, ca_18 HL C2, ↓ca_18_b HL C2, ca_19 HL C2, ↓ca_19_b HL C2, ca_20 HL C2, ↓ca_20_b HL C2, ca_21 HL C2, ↓ca_21_b HL C2, ca_22 HL C2, ↓ca_22_b HL C2, ca_23 HL C2, ↓ca_23_b HL C2, ca_24 HL C2, ↓ca_24_b HL C2, ca_25 HL C2, ↓ca_25_b HL C2, ca_26 HL C2, ↓ca_26_b HL C2, m_i C2.1, ↓m_i_b C2.1, m_p C2.1, ↓m_p_b C2.1, m_l C2.1, ↓m_l_b C2.1, m_pl C2.1, ↓m_pl_b C2.1, mr_15 C2.1, ↓mr_15_b C2.1, mr_16 C2.1, ↓mr_16_b C2.1, mr_17 C2.1, ↓mr_17_b C2.1, mr_18 C2.1, ↓mr_18_b C2.1, mr_21 C2.1, ↓mr_21_b C2.1, mr_22 C2.1, ↓mr_22_b C2.1, mr_23 C2.1, ↓mr_23_b C2.1, mr_24 C2.1, ↓mr_24_b C2.1, mr_25 C2.1, ↓mr_25_b C2.1, mr_30 C2.1, ↓mr_30_b C2.1, mr_31 C2.1, ↓mr_31_b C2.1, ↓bn_e (eu), eu, ↓bn_e (eb), eb]
  rfl
/-- the code's rest at each level -/
def lf (L : Lk) (n code : Nat) : Nat → Nat
  | 0 => code
  | i + 1 => lf L n code i / ch L (n - 1 - i)
theorem lf_le (L : Lk) (n code : Nat) : ∀ i, lf L n code i ≤ code := by
  intro i
  induction i with
  | zero => exact Nat.le_refl _
  | succ i ih => exact Nat.le_trans (Nat.div_le_self _ _) ih
def bo (k : Nat) (g : Nat → Int) : Int → Int := fun j => if k % 2 = 0 then g j.toNat else - g j.toNat
theorem D_argues {a : Ab} {h : Hp} {n : Nat} (HA : AW a) (H : RQ a h) (c : ¬ qL a 1 0 = 0) (hn' : n ≤ 4) : ∃ h', F_md_argues 88 (J n) h = some h' ∧ Qr h h' ∧ ∀ j : Nat, j < al (qL a) (min n 1) → ia h' 99 j = vlv (qL a) (qS a) (n - min n 1) (min n 1) j := by
  have HL := HA.1
  have b1 := LW_h HL
  have H1 : 1 ≤ qL a 1 0 := by omega
  have hne := hn_e HL
  obtain ⟨b, C⟩ := lkq_1 H c
  obtain ⟨L, hL⟩ : ∃ L, L = qL a := ⟨_, rfl⟩
  obtain ⟨S, hS⟩ : ∃ S, S = qS a := ⟨_, rfl⟩
  rw [← hL] at C HL b1 H1 hne ⊢
  rw [← hS]
  have e1 := lq_for (b := B_md_argues_4 88 (J n) h) (r := J (al L n : Nat)) (f := FU) (s := (J 1, J 0)) (fun i => (J (al L i : Nat), J i)) n (by unfold FU; omega) rfl (fun i hi => by
    have ec := D_choices HL C (k := i) (by omega)
    have em : (al L i : Int) * (ch L i : Int) = (al L (i + 1) : Nat) := (Int.natCast_mul _ _).symm
    unfold B_md_argues_4
    try simp only [j_0, j_1, j_2, j_3, j_4, j_5, j_6, j_7, j_8, j_9, j_10, j_11, j_12, j_13, j_14, j_15, j_16, j_17, j_18, j_19, j_20, j_21, j_22, j_23, j_24, j_25, j_26, j_27, j_28, j_29, j_30, j_31, j_32, j_33, j_34, j_35, j_36, j_37, j_38, j_39, j_40, j_41, j_42, j_43, j_44, j_45, j_46, j_47, j_48, j_49, j_50, j_51, j_52, j_57, j_59, j_63, j_74, j_75, j_93, j_97, j_99, j_100, j_122, j_200, j_255, j_300, j_465, j_496, j_900, j_999, j_1000, j_65536, j_65537, j_99999, j_252645135, j_858993459, j_1431655765, k_0, k_1, k_27, k_32, k_74, k_75, k_100, k_1000, k_65537]
    simp (disch := first | with_reducible assumption | omega | trivial) only [↓bn_s1, ↓bd_s1, ↓ei_l1, ↓ei_r1, ↓bn_if, ↓ilt_1, ↓ilt_0, ↓ieq_1, ↓ieq_0, bn_s1, bd_s1, ei_l1, ei_r1, J_add, J_sub, J_mul, J_neg, J_lt, J_le, J_eq, dv_J, rm_J, if_pos, if_neg, ↓reduceIte, bitJ, shlJ, orJ, j_0, j_1, j_2, j_3, j_4, j_5, j_6, j_7, j_8, j_9, j_10, j_11, j_12, j_13, j_14, j_15, j_16, j_17, j_18, j_19, j_20, j_21, j_22, j_23, j_24, j_25, j_26, j_27, j_28, j_29, j_30, j_31, j_32, j_33, j_34, j_35, j_36, j_37, j_38, j_39, j_40, j_41, j_42, j_43, j_44, j_45, j_46, j_47, j_48, j_49, j_50, j_51, j_52, j_57, j_59, j_63, j_74, j_75, j_93, j_97, j_99, j_100, j_122, j_200, j_255, j_300, j_465, j_496, j_900, j_999, j_1000, j_65536, j_65537, j_99999, j_252645135, j_858993459, j_1431655765, k_0, k_1, k_27, k_32, k_74, k_75, k_100, k_1000, k_65537, ↓bn_e (ec), ec, em]
    rfl) (by
    unfold B_md_argues_4
    try simp only [j_0, j_1, j_2, j_3, j_4, j_5, j_6, j_7, j_8, j_9, j_10, j_11, j_12, j_13, j_14, j_15, j_16, j_17, j_18, j_19, j_20, j_21, j_22, j_23, j_24, j_25, j_26, j_27, j_28, j_29, j_30, j_31, j_32, j_33, j_34, j_35, j_36, j_37, j_38, j_39, j_40, j_41, j_42, j_43, j_44, j_45, j_46, j_47, j_48, j_49, j_50, j_51, j_52, j_57, j_59, j_63, j_74, j_75, j_93, j_97, j_99, j_100, j_122, j_200, j_255, j_300, j_465, j_496, j_900, j_999, j_1000, j_65536, j_65537, j_99999, j_252645135, j_858993459, j_1431655765, k_0, k_1, k_27, k_32, k_74, k_75, k_100, k_1000, k_65537]
    simp (disch := first | with_reducible assumption | omega | trivial) only [↓bn_s1, ↓bd_s1, ↓ei_l1, ↓ei_r1, ↓bn_if, ↓ilt_1, ↓ilt_0, ↓ieq_1, ↓ieq_0, bn_s1, bd_s1, ei_l1, ei_r1, J_add, J_sub, J_mul, J_neg, J_lt, J_le, J_eq, dv_J, rm_J, if_pos, if_neg, ↓reduceIte, bitJ, shlJ, orJ, j_0, j_1, j_2, j_3, j_4, j_5, j_6, j_7, j_8, j_9, j_10, j_11, j_12, j_13, j_14, j_15, j_16, j_17, j_18, j_19, j_20, j_21, j_22, j_23, j_24, j_25, j_26, j_27, j_28, j_29, j_30, j_31, j_32, j_33, j_34, j_35, j_36, j_37, j_38, j_39, j_40, j_41, j_42, j_43, j_44, j_45, j_46, j_47, j_48, j_49, j_50, j_51, j_52, j_57, j_59, j_63, j_74, j_75, j_93, j_97, j_99, j_100, j_122, j_200, j_255, j_300, j_465, j_496, j_900, j_999, j_1000, j_65536, j_65537, j_99999, j_252645135, j_858993459, j_1431655765, k_0, k_1, k_27, k_32, k_74, k_75, k_100, k_1000, k_65537])
  have ab := al_b HL H1 (k := n) hn'
  -- all leaves
  obtain ⟨y2, h2, e2, q2, x2⟩ := lp_for (b := B_md_argues_25 88 (J n) (J (al L n : Nat))) (f := FU) (s := J 0) (h := h) (fun i s h' => s = J i ∧ Qr h h' ∧ ∀ j : Nat, j < i → ia h' 99 j = vlv L S 0 n j) (fun _ h' => Qr h h' ∧ ∀ j : Nat, j < al L n → ia h' 99 j = vlv L S 0 n j) (al L n) (by unfold FU; omega) ⟨rfl, qr_rf _, fun j hj => by omega⟩ (fun i s h2 hi hI => by
      obtain ⟨rfl, q2, x2⟩ := hI
      have C2 := RC_qr q2 C
      obtain ⟨y3, h3, e3, f3, x3⟩ := lp_for (b := B_md_argues_38 88 (J n) (J (al L n : Nat)) (J i)) (f := FU) (s := (J i, J ((n : Int) - 1))) (h := h2) (fun q s h' => s = (J (lf L n i q : Nat), J ((n : Int) - 1 - q)) ∧ Fm 100 101 h2 h' ∧ ∀ k : Nat, n - q ≤ k → k < n → ia h' 100 k = ((lf L n i (n - 1 - k) % ch L k : Nat) : Int)) (fun _ h' => Fm 100 101 h2 h' ∧ ∀ k : Nat, k < n → ia h' 100 k = ((lf L n i (n - 1 - k) % ch L k : Nat) : Int)) n (by unfold FU; omega) ⟨by rw [show (n : Int) - 1 - ((0 : Nat) : Int) = (n : Int) - 1 by omega]; rfl, fm_rf _ _ _, fun k k0 k1 => by omega⟩ (fun q s h3 hq hI => by
          obtain ⟨rfl, f3, x3⟩ := hI
          have C3 := RC_fm f3 (by omega) C2
          have ek : (n : Int) - 1 - q = ((n - 1 - q : Nat) : Int) := by omega
          have ec := D_choices HL C3 (k := n - 1 - q) (by omega)
          have cb := ch_b HL H1 (n - 1 - q)
          have ll := lf_le L n i q
          have rm := rmN (a := lf L n i q) (b := ch L (n - 1 - q)) (by omega) (by omega) (by omega)
          have dvv := dvN (a := lf L n i q) (b := ch L (n - 1 - q)) (by omega) (by omega) (by omega)
          have ml := Nat.mod_lt (lf L n i q) (show 0 < ch L (n - 1 - q) by omega)
          obtain ⟨h4, hh4⟩ : ∃ h4, h4 = wA h3 100 ((n - 1 - q : Nat) : Int) ((lf L n i q % ch L (n - 1 - q) : Nat) : Int) := ⟨_, rfl⟩
          have f4 : Fm 100 101 h3 h4 := by rw [hh4]; exact fm_wA (by omega) (by omega)
          have C4 := RC_fm f4 (by omega) C3
          have ec4 := D_choices HL C4 (k := n - 1 - q) (by omega)
          have nn := MS_n31 C3.1
          refine ⟨(J (lf L n i (q + 1) : Nat), J ((n : Int) - 1 - (q + 1 : Nat))), h4, ?_, rfl, fm_tr f3 f4, fun k k0 k1 => ?_⟩
          · unfold B_md_argues_38
            have e8 : (n : Int) - 1 - ((q + 1 : Nat) : Int) = ((n - 1 - q : Nat) : Int) + -1 := by omega
            rw [ek, jm1, e8]
            try simp only [j_0, j_1, j_2, j_3, j_4, j_5, j_6, j_7, j_8, j_9, j_10, j_11, j_12, j_13, j_14, j_15, j_16, j_17, j_18, j_19, j_20, j_21, j_22, j_23, j_24, j_25, j_26, j_27, j_28, j_29, j_30, j_31, j_32, j_33, j_34, j_35, j_36, j_37, j_38, j_39, j_40, j_41, j_42, j_43, j_44, j_45, j_46, j_47, j_48, j_49, j_50, j_51, j_52, j_57, j_59, j_63, j_74, j_75, j_93, j_97, j_99, j_100, j_122, j_200, j_255, j_300, j_465, j_496, j_900, j_999, j_1000, j_65536, j_65537, j_99999, j_252645135, j_858993459, j_1431655765, k_0, k_1, k_27, k_32, k_74, k_75, k_100, k_1000, k_65537]
            simp (disch := first | with_reducible assumption | omega | trivial) only [↓bn_s1, ↓bd_s1, ↓ei_l1, ↓ei_r1, ↓bn_if, ↓ilt_1, ↓ilt_0, ↓ieq_1, ↓ieq_0, bn_s1, bd_s1, ei_l1, ei_r1, J_add, J_sub, J_mul, J_neg, J_lt, J_le, J_eq, dv_J, if_pos, if_neg, ↓reduceIte, bitJ, shlJ, orJ, j_0, j_1, j_2, j_3, j_4, j_5, j_6, j_7, j_8, j_9, j_10, j_11, j_12, j_13, j_14, j_15, j_16, j_17, j_18, j_19, j_20, j_21, j_22, j_23, j_24, j_25, j_26, j_27, j_28, j_29, j_30, j_31, j_32, j_33, j_34, j_35, j_36, j_37, j_38, j_39, j_40, j_41, j_42, j_43, j_44, j_45, j_46, j_47, j_48, j_49, j_50, j_51, j_52, j_57, j_59, j_63, j_74, j_75, j_93, j_97, j_99, j_100, j_122, j_200, j_255, j_300, j_465, j_496, j_900, j_999, j_1000, j_65536, j_65537, j_99999, j_252645135, j_858993459, j_1431655765, k_0, k_1, k_27, k_32, k_74, k_75, k_100, k_1000, k_65537, mr_31 C3.1, ↓mr_31_b C3.1, ↓bn_e (ec), ec, ↓bn_e (rm), rm, ↓m100s_b C3.1, ← hh4, ↓bn_e (ec4), ec4, ↓bn_e (dvv), dvv]
            rfl
          · rw [hh4, ia_if (by omega) (by omega) (by omega) (by omega) (by omega)]
            by_cases e : k = n - 1 - q
            · rw [if_pos (by omega), e]
              have : n - 1 - (n - 1 - q) = q := by omega
              rw [this]
            · rw [if_neg (by omega)]; exact x3 k (by omega) k1) (fun s h3 hI => by
          obtain ⟨rfl, f3, x3⟩ := hI
          refine ⟨(), h3, ?_, f3, fun k k1 => x3 k (by omega) k1⟩
          unfold B_md_argues_38
          try simp only [j_0, j_1, j_2, j_3, j_4, j_5, j_6, j_7, j_8, j_9, j_10, j_11, j_12, j_13, j_14, j_15, j_16, j_17, j_18, j_19, j_20, j_21, j_22, j_23, j_24, j_25, j_26, j_27, j_28, j_29, j_30, j_31, j_32, j_33, j_34, j_35, j_36, j_37, j_38, j_39, j_40, j_41, j_42, j_43, j_44, j_45, j_46, j_47, j_48, j_49, j_50, j_51, j_52, j_57, j_59, j_63, j_74, j_75, j_93, j_97, j_99, j_100, j_122, j_200, j_255, j_300, j_465, j_496, j_900, j_999, j_1000, j_65536, j_65537, j_99999, j_252645135, j_858993459, j_1431655765, k_0, k_1, k_27, k_32, k_74, k_75, k_100, k_1000, k_65537]
          simp (disch := first | with_reducible assumption | omega | trivial) only [↓bn_s1, ↓bd_s1, ↓ei_l1, ↓ei_r1, ↓bn_if, ↓ilt_1, ↓ilt_0, ↓ieq_1, ↓ieq_0, bn_s1, bd_s1, ei_l1, ei_r1, J_add, J_sub, J_mul, J_neg, J_lt, J_le, J_eq, dv_J, if_pos, if_neg, ↓reduceIte, bitJ, shlJ, orJ, j_0, j_1, j_2, j_3, j_4, j_5, j_6, j_7, j_8, j_9, j_10, j_11, j_12, j_13, j_14, j_15, j_16, j_17, j_18, j_19, j_20, j_21, j_22, j_23, j_24, j_25, j_26, j_27, j_28, j_29, j_30, j_31, j_32, j_33, j_34, j_35, j_36, j_37, j_38, j_39, j_40, j_41, j_42, j_43, j_44, j_45, j_46, j_47, j_48, j_49, j_50, j_51, j_52, j_57, j_59, j_63, j_74, j_75, j_93, j_97, j_99, j_100, j_122, j_200, j_255, j_300, j_465, j_496, j_900, j_999, j_1000, j_65536, j_65537, j_99999, j_252645135, j_858993459, j_1431655765, k_0, k_1, k_27, k_32, k_74, k_75, k_100, k_1000, k_65537])
      have q3 := qr_94 f3 (by omega) (by omega)
      have RQ3 := RQ_qr (qr_tr q2 q3) H
      have C3 := RC_qr q3 C2
      obtain ⟨h4, e4, f4⟩ := D_afloat (n := n) (mv := fun k => lf L n i (n - 1 - k) % ch L k) (Sm := fun k => St L S k (lf L n i (n - k))) HA RQ3 c hn' (fun k hk => ⟨x3 k hk, by rw [← hL]; exact Nat.mod_lt _ (by have := ch_b HL H1 k; omega)⟩) hS (fun k hk => by
        show stp (St L S k (lf L n i (n - (k + 1)) / ch L k)) k (lf L n i (n - (k + 1)) % ch L k) = stp (St L S k (lf L n i (n - k))) k (lf L n i (n - 1 - k) % ch L k)
        have e5 : n - (k + 1) = n - 1 - k := by omega
        have e6 : n - k = (n - 1 - k) + 1 := by omega
        rw [e5, e6]
        show _ = stp (St L S k (lf L n i (n - 1 - k) / ch L (n - 1 - (n - 1 - k)))) k _
        have e7 : n - 1 - (n - 1 - k) = k := by omega
        rw [e7])
      have ev : dryO (qL a) (net (qL a) (St L S n (lf L n i (n - n)))) (St L S n (lf L n i (n - n)) 28).toNat = vlv L S 0 n i := by
        rw [← hL, Nat.sub_self]; rfl
      rw [ev] at e4
      have C4 := RC_fm f4 (by omega) C3
      have vb : 0 ≤ vlv L S 0 n i ∧ vlv L S 0 n i ≤ 5 := gm_b HL _ _ _ _
      have nn := MS_n30 C4.1
      have q5 : Qr h (wA h4 99 i (vlv L S 0 n i)) := qr_tr q2 (qr_tr q3 (qr_tr (qr_91 f4) (qr_94 (lo := 99) (hi := 100) (fm_wA (by omega) (by omega)) (by omega) (by omega))))
      refine ⟨J (i + 1 : Nat), wA h4 99 i (vlv L S 0 n i), ?_, rfl, q5, fun j hj => ?_⟩
      · unfold B_md_argues_25
        try simp only [j_0, j_1, j_2, j_3, j_4, j_5, j_6, j_7, j_8, j_9, j_10, j_11, j_12, j_13, j_14, j_15, j_16, j_17, j_18, j_19, j_20, j_21, j_22, j_23, j_24, j_25, j_26, j_27, j_28, j_29, j_30, j_31, j_32, j_33, j_34, j_35, j_36, j_37, j_38, j_39, j_40, j_41, j_42, j_43, j_44, j_45, j_46, j_47, j_48, j_49, j_50, j_51, j_52, j_57, j_59, j_63, j_74, j_75, j_93, j_97, j_99, j_100, j_122, j_200, j_255, j_300, j_465, j_496, j_900, j_999, j_1000, j_65536, j_65537, j_99999, j_252645135, j_858993459, j_1431655765, k_0, k_1, k_27, k_32, k_74, k_75, k_100, k_1000, k_65537]
        simp (disch := first | with_reducible assumption | omega | trivial) only [↓bn_s1, ↓bd_s1, ↓ei_l1, ↓ei_r1, ↓bn_if, ↓ilt_1, ↓ilt_0, ↓ieq_1, ↓ieq_0, bn_s1, bd_s1, ei_l1, ei_r1, J_add, J_sub, J_mul, J_neg, J_lt, J_le, J_eq, dv_J, if_pos, if_neg, ↓reduceIte, bitJ, shlJ, orJ, j_0, j_1, j_2, j_3, j_4, j_5, j_6, j_7, j_8, j_9, j_10, j_11, j_12, j_13, j_14, j_15, j_16, j_17, j_18, j_19, j_20, j_21, j_22, j_23, j_24, j_25, j_26, j_27, j_28, j_29, j_30, j_31, j_32, j_33, j_34, j_35, j_36, j_37, j_38, j_39, j_40, j_41, j_42, j_43, j_44, j_45, j_46, j_47, j_48, j_49, j_50, j_51, j_52, j_57, j_59, j_63, j_74, j_75, j_93, j_97, j_99, j_100, j_122, j_200, j_255, j_300, j_465, j_496, j_900, j_999, j_1000, j_65536, j_65537, j_99999, j_252645135, j_858993459, j_1431655765, k_0, k_1, k_27, k_32, k_74, k_75, k_100, k_1000, k_65537, ↓bd_e (e3), e3, m_i C3.1, ↓m_i_b C3.1, m_p C3.1, ↓m_p_b C3.1, m_l C3.1, ↓m_l_b C3.1, m_pl C3.1, ↓m_pl_b C3.1, mr_15 C3.1, ↓mr_15_b C3.1, mr_16 C3.1, ↓mr_16_b C3.1, mr_17 C3.1, ↓mr_17_b C3.1, mr_18 C3.1, ↓mr_18_b C3.1, mr_21 C3.1, ↓mr_21_b C3.1, mr_22 C3.1, ↓mr_22_b C3.1, mr_23 C3.1, ↓mr_23_b C3.1, mr_24 C3.1, ↓mr_24_b C3.1, mr_25 C3.1, ↓mr_25_b C3.1, mr_30 C3.1, ↓mr_30_b C3.1, mr_31 C3.1, ↓mr_31_b C3.1, m90a C3.1, ↓m90a_b C3.1, m90s C3.1, ↓m90s_b C3.1, m91a C3.1, ↓m91a_b C3.1, m91s C3.1, ↓m91s_b C3.1, m92a C3.1, ↓m92a_b C3.1, m92s C3.1, ↓m92s_b C3.1, m93a C3.1, ↓m93a_b C3.1, m93s C3.1, ↓m93s_b C3.1, m94a C3.1, ↓m94a_b C3.1, m94s C3.1, ↓m94s_b C3.1, m95a C3.1, ↓m95a_b C3.1, m95s C3.1, ↓m95s_b C3.1, m96a C3.1, ↓m96a_b C3.1, m96s C3.1, ↓m96s_b C3.1, m97a C3.1, ↓m97a_b C3.1, m97s C3.1, ↓m97s_b C3.1, m98a C3.1, ↓m98a_b C3.1, m98s C3.1, ↓m98s_b C3.1, m99a C3.1, ↓m99a_b C3.1, m99s C3.1, ↓m99s_b C3.1, m100a C3.1, ↓m100a_b C3.1, m100s C3.1, ↓m100s_b C3.1, ↓bd_e (e4), e4, ↓m99s_b C4.1]
        rfl
      · rw [ia_if (by omega) (by omega) (by omega) (by omega) (by omega)]
        by_cases e : j = i
        · rw [if_pos (by omega), e]
        · rw [if_neg (by omega), fm_ia f4 (by omega), fm_ia f3 (by omega)]; exact x2 j (by omega)) (fun s h2 hI => by
      obtain ⟨rfl, q2, x2⟩ := hI
      refine ⟨(), h2, ?_, q2, x2⟩
      unfold B_md_argues_25
      try simp only [j_0, j_1, j_2, j_3, j_4, j_5, j_6, j_7, j_8, j_9, j_10, j_11, j_12, j_13, j_14, j_15, j_16, j_17, j_18, j_19, j_20, j_21, j_22, j_23, j_24, j_25, j_26, j_27, j_28, j_29, j_30, j_31, j_32, j_33, j_34, j_35, j_36, j_37, j_38, j_39, j_40, j_41, j_42, j_43, j_44, j_45, j_46, j_47, j_48, j_49, j_50, j_51, j_52, j_57, j_59, j_63, j_74, j_75, j_93, j_97, j_99, j_100, j_122, j_200, j_255, j_300, j_465, j_496, j_900, j_999, j_1000, j_65536, j_65537, j_99999, j_252645135, j_858993459, j_1431655765, k_0, k_1, k_27, k_32, k_74, k_75, k_100, k_1000, k_65537]
      simp (disch := first | with_reducible assumption | omega | trivial) only [↓bn_s1, ↓bd_s1, ↓ei_l1, ↓ei_r1, ↓bn_if, ↓ilt_1, ↓ilt_0, ↓ieq_1, ↓ieq_0, bn_s1, bd_s1, ei_l1, ei_r1, J_add, J_sub, J_mul, J_neg, J_lt, J_le, J_eq, dv_J, if_pos, if_neg, ↓reduceIte, bitJ, shlJ, orJ, j_0, j_1, j_2, j_3, j_4, j_5, j_6, j_7, j_8, j_9, j_10, j_11, j_12, j_13, j_14, j_15, j_16, j_17, j_18, j_19, j_20, j_21, j_22, j_23, j_24, j_25, j_26, j_27, j_28, j_29, j_30, j_31, j_32, j_33, j_34, j_35, j_36, j_37, j_38, j_39, j_40, j_41, j_42, j_43, j_44, j_45, j_46, j_47, j_48, j_49, j_50, j_51, j_52, j_57, j_59, j_63, j_74, j_75, j_93, j_97, j_99, j_100, j_122, j_200, j_255, j_300, j_465, j_496, j_900, j_999, j_1000, j_65536, j_65537, j_99999, j_252645135, j_858993459, j_1431655765, k_0, k_1, k_27, k_32, k_74, k_75, k_100, k_1000, k_65537])
  -- levels
  have lev : ∀ (k m : Nat) (h3 : Hp), k ≤ 3 → Qr h h3 → (∀ j : Nat, j < al L (k + 1) → ia h3 99 j = vlv L S m (k + 1) j) → ∃ y h4, lp (B_md_argues_112 88 (J (al L k : Nat)) (J k)) FU (J 0) h3 = some (y, h4) ∧ Qr h h4 ∧ ∀ j : Nat, j < al L k → ia h4 99 j = vlv L S (m + 1) k j := by
    intro k m h3 hk q3 x3
    have C3 := RC_qr q3 C
    have cb := ch_b HL H1 k
    have ak := al_b HL H1 (k := k) (by omega)
    have ak1 := al_b HL H1 (k := k + 1) (by omega)
    have es : al L (k + 1) = al L k * ch L k := rfl
    have ix : ∀ i j : Nat, i < al L k → j < ch L k → i * ch L k + j < al L (k + 1) ∧ i ≤ i * ch L k + j := by
      intro i j hi hj
      have m1 : (i + 1) * ch L k ≤ al L k * ch L k := Nat.mul_le_mul_right _ hi
      have m2 : (i + 1) * ch L k = i * ch L k + ch L k := by rw [Nat.add_mul, Nat.one_mul]
      have m3 : i * 1 ≤ i * ch L k := Nat.mul_le_mul_left _ cb.1
      omega
    obtain ⟨y, h4, e4, q4, x4⟩ := lp_for (b := B_md_argues_112 88 (J (al L k : Nat)) (J k)) (f := FU) (s := J 0) (h := h3) (fun i s h' => s = J i ∧ Fm 99 100 h3 h' ∧ (∀ j : Nat, j < i → ia h' 99 j = vlv L S (m + 1) k j) ∧ ∀ j : Nat, i ≤ j → ia h' 99 j = ia h3 99 j) (fun _ h' => Fm 99 100 h3 h' ∧ ∀ j : Nat, j < al L k → ia h' 99 j = vlv L S (m + 1) k j) (al L k) (by unfold FU; omega) ⟨rfl, fm_rf _ _ _, fun j hj => by omega, fun j _ => rfl⟩ (fun i s h4 hi hI => by
        obtain ⟨rfl, f4, x4, u4⟩ := hI
        have C4 := RC_fm f4 (by omega) C3
        have ec := D_choices HL C4 (k := k) (by omega)
        obtain ⟨g, hg⟩ : ∃ g : Nat → Int, g = fun j => vlv L S m (k + 1) (i * ch L k + j) := ⟨_, rfl⟩
        have gb : ∀ j, 0 ≤ g j ∧ g j ≤ 5 := fun j => by rw [hg]; exact gm_b HL _ _ _ _
        have vg : ∀ j : Nat, j < ch L k → ia h4 99 ((i : Int) * (ch L k : Int) + j) = g j := fun j hj => by
          have x := ix i j hi hj
          have ej : (i : Int) * (ch L k : Int) + j = ((i * ch L k + j : Nat) : Int) := by rw [Int.natCast_add, Int.natCast_mul]
          rw [ej, u4 _ x.2, x3 _ x.1, hg]
        have ixb : ∀ j : Nat, j < ch L k → 0 ≤ (i : Int) * (ch L k : Int) + j ∧ (i : Int) * (ch L k : Int) + j < 900 := fun j hj => by
          have x := ix i j hi hj
          have ej : (i : Int) * (ch L k : Int) + j = ((i * ch L k + j : Nat) : Int) := by rw [Int.natCast_add, Int.natCast_mul]
          rw [ej]; omega
        obtain ⟨f, hf⟩ : ∃ f, f = bo k g := ⟨_, rfl⟩
        have lw01 : lw f (0 + 1) = 0 := by have := lw_lt f 0; omega
        have rm := rmN (a := k) (b := 2) (by omega) (by omega) (by omega)
        replace rm : rm32 (J k) (J 2) = some (J ((k % 2 : Nat) : Int)) := rm
        have el := lq_for (b := B_md_argues_136 88 (J (al L k : Nat)) (J k) (J i) h4) (r := J (g (lw f (ch L k)))) (f := FU) (s := (J (g 0), J 1)) (fun j => (J (g (lw f (j + 1))), J (j + 1 : Nat))) (ch L k - 1) (by unfold FU; omega) (by rw [lw01]; rfl) (fun j hj => by
          have v := vg (j + 1) (by omega)
          have vb := ixb (j + 1) (by omega)
          have g1 := gb (j + 1)
          have g2 := gb (lw f (j + 1))
          have e6 : lw f (j + 1 + 1) = if f ((j + 1 : Nat) : Int) < f (lw f (j + 1) : Nat) then j + 1 else lw f (j + 1) := rfl
          have ff : ∀ q : Nat, f q = if k % 2 = 0 then g q else - g q := fun q => by rw [hf]; unfold bo; rw [Int.toNat_natCast]
          rw [ff, ff] at e6
          unfold B_md_argues_136
          by_cases ke : k % 2 = 0
          · rw [if_pos ke, if_pos ke] at e6
            by_cases lt : g (j + 1) < g (lw f (j + 1))
            · rw [if_pos lt] at e6
              rw [e6]
              try simp only [j_0, j_1, j_2, j_3, j_4, j_5, j_6, j_7, j_8, j_9, j_10, j_11, j_12, j_13, j_14, j_15, j_16, j_17, j_18, j_19, j_20, j_21, j_22, j_23, j_24, j_25, j_26, j_27, j_28, j_29, j_30, j_31, j_32, j_33, j_34, j_35, j_36, j_37, j_38, j_39, j_40, j_41, j_42, j_43, j_44, j_45, j_46, j_47, j_48, j_49, j_50, j_51, j_52, j_57, j_59, j_63, j_74, j_75, j_93, j_97, j_99, j_100, j_122, j_200, j_255, j_300, j_465, j_496, j_900, j_999, j_1000, j_65536, j_65537, j_99999, j_252645135, j_858993459, j_1431655765, k_0, k_1, k_27, k_32, k_74, k_75, k_100, k_1000, k_65537]
              simp (disch := first | with_reducible assumption | omega | trivial) only [↓bn_s1, ↓bd_s1, ↓ei_l1, ↓ei_r1, ↓bn_if, ↓ilt_1, ↓ilt_0, ↓ieq_1, ↓ieq_0, bn_s1, bd_s1, ei_l1, ei_r1, J_add, J_sub, J_mul, J_neg, J_lt, J_le, J_eq, dv_J, if_pos, if_neg, ↓reduceIte, bitJ, shlJ, orJ, j_0, j_1, j_2, j_3, j_4, j_5, j_6, j_7, j_8, j_9, j_10, j_11, j_12, j_13, j_14, j_15, j_16, j_17, j_18, j_19, j_20, j_21, j_22, j_23, j_24, j_25, j_26, j_27, j_28, j_29, j_30, j_31, j_32, j_33, j_34, j_35, j_36, j_37, j_38, j_39, j_40, j_41, j_42, j_43, j_44, j_45, j_46, j_47, j_48, j_49, j_50, j_51, j_52, j_57, j_59, j_63, j_74, j_75, j_93, j_97, j_99, j_100, j_122, j_200, j_255, j_300, j_465, j_496, j_900, j_999, j_1000, j_65536, j_65537, j_99999, j_252645135, j_858993459, j_1431655765, k_0, k_1, k_27, k_32, k_74, k_75, k_100, k_1000, k_65537, ↓bn_e (ec), ec, m_i C4.1, ↓m_i_b C4.1, m_p C4.1, ↓m_p_b C4.1, m_l C4.1, ↓m_l_b C4.1, m_pl C4.1, ↓m_pl_b C4.1, mr_15 C4.1, ↓mr_15_b C4.1, mr_16 C4.1, ↓mr_16_b C4.1, mr_17 C4.1, ↓mr_17_b C4.1, mr_18 C4.1, ↓mr_18_b C4.1, mr_21 C4.1, ↓mr_21_b C4.1, mr_22 C4.1, ↓mr_22_b C4.1, mr_23 C4.1, ↓mr_23_b C4.1, mr_24 C4.1, ↓mr_24_b C4.1, mr_25 C4.1, ↓mr_25_b C4.1, mr_30 C4.1, ↓mr_30_b C4.1, mr_31 C4.1, ↓mr_31_b C4.1, m90a C4.1, ↓m90a_b C4.1, m90s C4.1, ↓m90s_b C4.1, m91a C4.1, ↓m91a_b C4.1, m91s C4.1, ↓m91s_b C4.1, m92a C4.1, ↓m92a_b C4.1, m92s C4.1, ↓m92s_b C4.1, m93a C4.1, ↓m93a_b C4.1, m93s C4.1, ↓m93s_b C4.1, m94a C4.1, ↓m94a_b C4.1, m94s C4.1, ↓m94s_b C4.1, m95a C4.1, ↓m95a_b C4.1, m95s C4.1, ↓m95s_b C4.1, m96a C4.1, ↓m96a_b C4.1, m96s C4.1, ↓m96s_b C4.1, m97a C4.1, ↓m97a_b C4.1, m97s C4.1, ↓m97s_b C4.1, m98a C4.1, ↓m98a_b C4.1, m98s C4.1, ↓m98s_b C4.1, m99a C4.1, ↓m99a_b C4.1, m99s C4.1, ↓m99s_b C4.1, m100a C4.1, ↓m100a_b C4.1, m100s C4.1, ↓m100s_b C4.1, v, ↓bn_e (rm), rm, ke]
              rfl
            · rw [if_neg lt] at e6
              rw [e6]
              try simp only [j_0, j_1, j_2, j_3, j_4, j_5, j_6, j_7, j_8, j_9, j_10, j_11, j_12, j_13, j_14, j_15, j_16, j_17, j_18, j_19, j_20, j_21, j_22, j_23, j_24, j_25, j_26, j_27, j_28, j_29, j_30, j_31, j_32, j_33, j_34, j_35, j_36, j_37, j_38, j_39, j_40, j_41, j_42, j_43, j_44, j_45, j_46, j_47, j_48, j_49, j_50, j_51, j_52, j_57, j_59, j_63, j_74, j_75, j_93, j_97, j_99, j_100, j_122, j_200, j_255, j_300, j_465, j_496, j_900, j_999, j_1000, j_65536, j_65537, j_99999, j_252645135, j_858993459, j_1431655765, k_0, k_1, k_27, k_32, k_74, k_75, k_100, k_1000, k_65537]
              simp (disch := first | with_reducible assumption | omega | trivial) only [↓bn_s1, ↓bd_s1, ↓ei_l1, ↓ei_r1, ↓bn_if, ↓ilt_1, ↓ilt_0, ↓ieq_1, ↓ieq_0, bn_s1, bd_s1, ei_l1, ei_r1, J_add, J_sub, J_mul, J_neg, J_lt, J_le, J_eq, dv_J, if_pos, if_neg, ↓reduceIte, bitJ, shlJ, orJ, j_0, j_1, j_2, j_3, j_4, j_5, j_6, j_7, j_8, j_9, j_10, j_11, j_12, j_13, j_14, j_15, j_16, j_17, j_18, j_19, j_20, j_21, j_22, j_23, j_24, j_25, j_26, j_27, j_28, j_29, j_30, j_31, j_32, j_33, j_34, j_35, j_36, j_37, j_38, j_39, j_40, j_41, j_42, j_43, j_44, j_45, j_46, j_47, j_48, j_49, j_50, j_51, j_52, j_57, j_59, j_63, j_74, j_75, j_93, j_97, j_99, j_100, j_122, j_200, j_255, j_300, j_465, j_496, j_900, j_999, j_1000, j_65536, j_65537, j_99999, j_252645135, j_858993459, j_1431655765, k_0, k_1, k_27, k_32, k_74, k_75, k_100, k_1000, k_65537, ↓bn_e (ec), ec, m_i C4.1, ↓m_i_b C4.1, m_p C4.1, ↓m_p_b C4.1, m_l C4.1, ↓m_l_b C4.1, m_pl C4.1, ↓m_pl_b C4.1, mr_15 C4.1, ↓mr_15_b C4.1, mr_16 C4.1, ↓mr_16_b C4.1, mr_17 C4.1, ↓mr_17_b C4.1, mr_18 C4.1, ↓mr_18_b C4.1, mr_21 C4.1, ↓mr_21_b C4.1, mr_22 C4.1, ↓mr_22_b C4.1, mr_23 C4.1, ↓mr_23_b C4.1, mr_24 C4.1, ↓mr_24_b C4.1, mr_25 C4.1, ↓mr_25_b C4.1, mr_30 C4.1, ↓mr_30_b C4.1, mr_31 C4.1, ↓mr_31_b C4.1, m90a C4.1, ↓m90a_b C4.1, m90s C4.1, ↓m90s_b C4.1, m91a C4.1, ↓m91a_b C4.1, m91s C4.1, ↓m91s_b C4.1, m92a C4.1, ↓m92a_b C4.1, m92s C4.1, ↓m92s_b C4.1, m93a C4.1, ↓m93a_b C4.1, m93s C4.1, ↓m93s_b C4.1, m94a C4.1, ↓m94a_b C4.1, m94s C4.1, ↓m94s_b C4.1, m95a C4.1, ↓m95a_b C4.1, m95s C4.1, ↓m95s_b C4.1, m96a C4.1, ↓m96a_b C4.1, m96s C4.1, ↓m96s_b C4.1, m97a C4.1, ↓m97a_b C4.1, m97s C4.1, ↓m97s_b C4.1, m98a C4.1, ↓m98a_b C4.1, m98s C4.1, ↓m98s_b C4.1, m99a C4.1, ↓m99a_b C4.1, m99s C4.1, ↓m99s_b C4.1, m100a C4.1, ↓m100a_b C4.1, m100s C4.1, ↓m100s_b C4.1, v, ↓bn_e (rm), rm, ke]
              rfl
          · rw [if_neg ke, if_neg ke] at e6
            by_cases lt : g (lw f (j + 1)) < g (j + 1)
            · rw [if_pos (by omega)] at e6
              rw [e6]
              try simp only [j_0, j_1, j_2, j_3, j_4, j_5, j_6, j_7, j_8, j_9, j_10, j_11, j_12, j_13, j_14, j_15, j_16, j_17, j_18, j_19, j_20, j_21, j_22, j_23, j_24, j_25, j_26, j_27, j_28, j_29, j_30, j_31, j_32, j_33, j_34, j_35, j_36, j_37, j_38, j_39, j_40, j_41, j_42, j_43, j_44, j_45, j_46, j_47, j_48, j_49, j_50, j_51, j_52, j_57, j_59, j_63, j_74, j_75, j_93, j_97, j_99, j_100, j_122, j_200, j_255, j_300, j_465, j_496, j_900, j_999, j_1000, j_65536, j_65537, j_99999, j_252645135, j_858993459, j_1431655765, k_0, k_1, k_27, k_32, k_74, k_75, k_100, k_1000, k_65537]
              simp (disch := first | with_reducible assumption | omega | trivial) only [↓bn_s1, ↓bd_s1, ↓ei_l1, ↓ei_r1, ↓bn_if, ↓ilt_1, ↓ilt_0, ↓ieq_1, ↓ieq_0, bn_s1, bd_s1, ei_l1, ei_r1, J_add, J_sub, J_mul, J_neg, J_lt, J_le, J_eq, dv_J, if_pos, if_neg, ↓reduceIte, bitJ, shlJ, orJ, j_0, j_1, j_2, j_3, j_4, j_5, j_6, j_7, j_8, j_9, j_10, j_11, j_12, j_13, j_14, j_15, j_16, j_17, j_18, j_19, j_20, j_21, j_22, j_23, j_24, j_25, j_26, j_27, j_28, j_29, j_30, j_31, j_32, j_33, j_34, j_35, j_36, j_37, j_38, j_39, j_40, j_41, j_42, j_43, j_44, j_45, j_46, j_47, j_48, j_49, j_50, j_51, j_52, j_57, j_59, j_63, j_74, j_75, j_93, j_97, j_99, j_100, j_122, j_200, j_255, j_300, j_465, j_496, j_900, j_999, j_1000, j_65536, j_65537, j_99999, j_252645135, j_858993459, j_1431655765, k_0, k_1, k_27, k_32, k_74, k_75, k_100, k_1000, k_65537, ↓bn_e (ec), ec, m_i C4.1, ↓m_i_b C4.1, m_p C4.1, ↓m_p_b C4.1, m_l C4.1, ↓m_l_b C4.1, m_pl C4.1, ↓m_pl_b C4.1, mr_15 C4.1, ↓mr_15_b C4.1, mr_16 C4.1, ↓mr_16_b C4.1, mr_17 C4.1, ↓mr_17_b C4.1, mr_18 C4.1, ↓mr_18_b C4.1, mr_21 C4.1, ↓mr_21_b C4.1, mr_22 C4.1, ↓mr_22_b C4.1, mr_23 C4.1, ↓mr_23_b C4.1, mr_24 C4.1, ↓mr_24_b C4.1, mr_25 C4.1, ↓mr_25_b C4.1, mr_30 C4.1, ↓mr_30_b C4.1, mr_31 C4.1, ↓mr_31_b C4.1, m90a C4.1, ↓m90a_b C4.1, m90s C4.1, ↓m90s_b C4.1, m91a C4.1, ↓m91a_b C4.1, m91s C4.1, ↓m91s_b C4.1, m92a C4.1, ↓m92a_b C4.1, m92s C4.1, ↓m92s_b C4.1, m93a C4.1, ↓m93a_b C4.1, m93s C4.1, ↓m93s_b C4.1, m94a C4.1, ↓m94a_b C4.1, m94s C4.1, ↓m94s_b C4.1, m95a C4.1, ↓m95a_b C4.1, m95s C4.1, ↓m95s_b C4.1, m96a C4.1, ↓m96a_b C4.1, m96s C4.1, ↓m96s_b C4.1, m97a C4.1, ↓m97a_b C4.1, m97s C4.1, ↓m97s_b C4.1, m98a C4.1, ↓m98a_b C4.1, m98s C4.1, ↓m98s_b C4.1, m99a C4.1, ↓m99a_b C4.1, m99s C4.1, ↓m99s_b C4.1, m100a C4.1, ↓m100a_b C4.1, m100s C4.1, ↓m100s_b C4.1, v, ↓bn_e (rm), rm]
              rfl
            · rw [if_neg (by omega)] at e6
              rw [e6]
              try simp only [j_0, j_1, j_2, j_3, j_4, j_5, j_6, j_7, j_8, j_9, j_10, j_11, j_12, j_13, j_14, j_15, j_16, j_17, j_18, j_19, j_20, j_21, j_22, j_23, j_24, j_25, j_26, j_27, j_28, j_29, j_30, j_31, j_32, j_33, j_34, j_35, j_36, j_37, j_38, j_39, j_40, j_41, j_42, j_43, j_44, j_45, j_46, j_47, j_48, j_49, j_50, j_51, j_52, j_57, j_59, j_63, j_74, j_75, j_93, j_97, j_99, j_100, j_122, j_200, j_255, j_300, j_465, j_496, j_900, j_999, j_1000, j_65536, j_65537, j_99999, j_252645135, j_858993459, j_1431655765, k_0, k_1, k_27, k_32, k_74, k_75, k_100, k_1000, k_65537]
              simp (disch := first | with_reducible assumption | omega | trivial) only [↓bn_s1, ↓bd_s1, ↓ei_l1, ↓ei_r1, ↓bn_if, ↓ilt_1, ↓ilt_0, ↓ieq_1, ↓ieq_0, bn_s1, bd_s1, ei_l1, ei_r1, J_add, J_sub, J_mul, J_neg, J_lt, J_le, J_eq, dv_J, if_pos, if_neg, ↓reduceIte, bitJ, shlJ, orJ, j_0, j_1, j_2, j_3, j_4, j_5, j_6, j_7, j_8, j_9, j_10, j_11, j_12, j_13, j_14, j_15, j_16, j_17, j_18, j_19, j_20, j_21, j_22, j_23, j_24, j_25, j_26, j_27, j_28, j_29, j_30, j_31, j_32, j_33, j_34, j_35, j_36, j_37, j_38, j_39, j_40, j_41, j_42, j_43, j_44, j_45, j_46, j_47, j_48, j_49, j_50, j_51, j_52, j_57, j_59, j_63, j_74, j_75, j_93, j_97, j_99, j_100, j_122, j_200, j_255, j_300, j_465, j_496, j_900, j_999, j_1000, j_65536, j_65537, j_99999, j_252645135, j_858993459, j_1431655765, k_0, k_1, k_27, k_32, k_74, k_75, k_100, k_1000, k_65537, ↓bn_e (ec), ec, m_i C4.1, ↓m_i_b C4.1, m_p C4.1, ↓m_p_b C4.1, m_l C4.1, ↓m_l_b C4.1, m_pl C4.1, ↓m_pl_b C4.1, mr_15 C4.1, ↓mr_15_b C4.1, mr_16 C4.1, ↓mr_16_b C4.1, mr_17 C4.1, ↓mr_17_b C4.1, mr_18 C4.1, ↓mr_18_b C4.1, mr_21 C4.1, ↓mr_21_b C4.1, mr_22 C4.1, ↓mr_22_b C4.1, mr_23 C4.1, ↓mr_23_b C4.1, mr_24 C4.1, ↓mr_24_b C4.1, mr_25 C4.1, ↓mr_25_b C4.1, mr_30 C4.1, ↓mr_30_b C4.1, mr_31 C4.1, ↓mr_31_b C4.1, m90a C4.1, ↓m90a_b C4.1, m90s C4.1, ↓m90s_b C4.1, m91a C4.1, ↓m91a_b C4.1, m91s C4.1, ↓m91s_b C4.1, m92a C4.1, ↓m92a_b C4.1, m92s C4.1, ↓m92s_b C4.1, m93a C4.1, ↓m93a_b C4.1, m93s C4.1, ↓m93s_b C4.1, m94a C4.1, ↓m94a_b C4.1, m94s C4.1, ↓m94s_b C4.1, m95a C4.1, ↓m95a_b C4.1, m95s C4.1, ↓m95s_b C4.1, m96a C4.1, ↓m96a_b C4.1, m96s C4.1, ↓m96s_b C4.1, m97a C4.1, ↓m97a_b C4.1, m97s C4.1, ↓m97s_b C4.1, m98a C4.1, ↓m98a_b C4.1, m98s C4.1, ↓m98s_b C4.1, m99a C4.1, ↓m99a_b C4.1, m99s C4.1, ↓m99s_b C4.1, m100a C4.1, ↓m100a_b C4.1, m100s C4.1, ↓m100s_b C4.1, v, ↓bn_e (rm), rm]
              rfl) (by
          rw [show ch L k - 1 + 1 = ch L k by omega]
          unfold B_md_argues_136
          try simp only [j_0, j_1, j_2, j_3, j_4, j_5, j_6, j_7, j_8, j_9, j_10, j_11, j_12, j_13, j_14, j_15, j_16, j_17, j_18, j_19, j_20, j_21, j_22, j_23, j_24, j_25, j_26, j_27, j_28, j_29, j_30, j_31, j_32, j_33, j_34, j_35, j_36, j_37, j_38, j_39, j_40, j_41, j_42, j_43, j_44, j_45, j_46, j_47, j_48, j_49, j_50, j_51, j_52, j_57, j_59, j_63, j_74, j_75, j_93, j_97, j_99, j_100, j_122, j_200, j_255, j_300, j_465, j_496, j_900, j_999, j_1000, j_65536, j_65537, j_99999, j_252645135, j_858993459, j_1431655765, k_0, k_1, k_27, k_32, k_74, k_75, k_100, k_1000, k_65537]
          simp (disch := first | with_reducible assumption | omega | trivial) only [↓bn_s1, ↓bd_s1, ↓ei_l1, ↓ei_r1, ↓bn_if, ↓ilt_1, ↓ilt_0, ↓ieq_1, ↓ieq_0, bn_s1, bd_s1, ei_l1, ei_r1, J_add, J_sub, J_mul, J_neg, J_lt, J_le, J_eq, dv_J, if_pos, if_neg, ↓reduceIte, bitJ, shlJ, orJ, j_0, j_1, j_2, j_3, j_4, j_5, j_6, j_7, j_8, j_9, j_10, j_11, j_12, j_13, j_14, j_15, j_16, j_17, j_18, j_19, j_20, j_21, j_22, j_23, j_24, j_25, j_26, j_27, j_28, j_29, j_30, j_31, j_32, j_33, j_34, j_35, j_36, j_37, j_38, j_39, j_40, j_41, j_42, j_43, j_44, j_45, j_46, j_47, j_48, j_49, j_50, j_51, j_52, j_57, j_59, j_63, j_74, j_75, j_93, j_97, j_99, j_100, j_122, j_200, j_255, j_300, j_465, j_496, j_900, j_999, j_1000, j_65536, j_65537, j_99999, j_252645135, j_858993459, j_1431655765, k_0, k_1, k_27, k_32, k_74, k_75, k_100, k_1000, k_65537, ↓bn_e (ec), ec])
        have eo : g (lw f (ch L k)) = vlv L S (m + 1) k i := by
          rw [vlv_s HL H1 S m k i, ← hg, hf]
          unfold opt bo ch gmk gmv
          by_cases ke : k % 2 = 0
          · simp only [if_pos ke]
          · simp only [if_neg ke]
        rw [eo] at el
        have vb : 0 ≤ vlv L S (m + 1) k i ∧ vlv L S (m + 1) k i ≤ 5 := gm_b HL _ _ _ _
        have v0 := vg 0 (by omega)
        have i0 := ixb 0 (by omega)
        rw [show (i : Int) * (ch L k : Int) + ((0 : Nat) : Int) = (i : Int) * (ch L k : Int) by omega] at v0 i0
        have nn := MS_n30 C4.1
        refine ⟨J (i + 1 : Nat), wA h4 99 i (vlv L S (m + 1) k i), ?_, rfl, fm_tr f4 (fm_wA (by omega) (by omega)), fun j hj => ?_, fun j hj => ?_⟩
        · unfold B_md_argues_112
          try simp only [j_0, j_1, j_2, j_3, j_4, j_5, j_6, j_7, j_8, j_9, j_10, j_11, j_12, j_13, j_14, j_15, j_16, j_17, j_18, j_19, j_20, j_21, j_22, j_23, j_24, j_25, j_26, j_27, j_28, j_29, j_30, j_31, j_32, j_33, j_34, j_35, j_36, j_37, j_38, j_39, j_40, j_41, j_42, j_43, j_44, j_45, j_46, j_47, j_48, j_49, j_50, j_51, j_52, j_57, j_59, j_63, j_74, j_75, j_93, j_97, j_99, j_100, j_122, j_200, j_255, j_300, j_465, j_496, j_900, j_999, j_1000, j_65536, j_65537, j_99999, j_252645135, j_858993459, j_1431655765, k_0, k_1, k_27, k_32, k_74, k_75, k_100, k_1000, k_65537]
          simp (disch := first | with_reducible assumption | omega | trivial) only [↓bn_s1, ↓bd_s1, ↓ei_l1, ↓ei_r1, ↓bn_if, ↓ilt_1, ↓ilt_0, ↓ieq_1, ↓ieq_0, bn_s1, bd_s1, ei_l1, ei_r1, J_add, J_sub, J_mul, J_neg, J_lt, J_le, J_eq, dv_J, if_pos, if_neg, ↓reduceIte, bitJ, shlJ, orJ, j_0, j_1, j_2, j_3, j_4, j_5, j_6, j_7, j_8, j_9, j_10, j_11, j_12, j_13, j_14, j_15, j_16, j_17, j_18, j_19, j_20, j_21, j_22, j_23, j_24, j_25, j_26, j_27, j_28, j_29, j_30, j_31, j_32, j_33, j_34, j_35, j_36, j_37, j_38, j_39, j_40, j_41, j_42, j_43, j_44, j_45, j_46, j_47, j_48, j_49, j_50, j_51, j_52, j_57, j_59, j_63, j_74, j_75, j_93, j_97, j_99, j_100, j_122, j_200, j_255, j_300, j_465, j_496, j_900, j_999, j_1000, j_65536, j_65537, j_99999, j_252645135, j_858993459, j_1431655765, k_0, k_1, k_27, k_32, k_74, k_75, k_100, k_1000, k_65537, ↓bn_e (ec), ec, m_i C4.1, ↓m_i_b C4.1, m_p C4.1, ↓m_p_b C4.1, m_l C4.1, ↓m_l_b C4.1, m_pl C4.1, ↓m_pl_b C4.1, mr_15 C4.1, ↓mr_15_b C4.1, mr_16 C4.1, ↓mr_16_b C4.1, mr_17 C4.1, ↓mr_17_b C4.1, mr_18 C4.1, ↓mr_18_b C4.1, mr_21 C4.1, ↓mr_21_b C4.1, mr_22 C4.1, ↓mr_22_b C4.1, mr_23 C4.1, ↓mr_23_b C4.1, mr_24 C4.1, ↓mr_24_b C4.1, mr_25 C4.1, ↓mr_25_b C4.1, mr_30 C4.1, ↓mr_30_b C4.1, mr_31 C4.1, ↓mr_31_b C4.1, m90a C4.1, ↓m90a_b C4.1, m90s C4.1, ↓m90s_b C4.1, m91a C4.1, ↓m91a_b C4.1, m91s C4.1, ↓m91s_b C4.1, m92a C4.1, ↓m92a_b C4.1, m92s C4.1, ↓m92s_b C4.1, m93a C4.1, ↓m93a_b C4.1, m93s C4.1, ↓m93s_b C4.1, m94a C4.1, ↓m94a_b C4.1, m94s C4.1, ↓m94s_b C4.1, m95a C4.1, ↓m95a_b C4.1, m95s C4.1, ↓m95s_b C4.1, m96a C4.1, ↓m96a_b C4.1, m96s C4.1, ↓m96s_b C4.1, m97a C4.1, ↓m97a_b C4.1, m97s C4.1, ↓m97s_b C4.1, m98a C4.1, ↓m98a_b C4.1, m98s C4.1, ↓m98s_b C4.1, m99a C4.1, ↓m99a_b C4.1, m99s C4.1, ↓m99s_b C4.1, m100a C4.1, ↓m100a_b C4.1, m100s C4.1, ↓m100s_b C4.1, v0, ↓bn_e (el), el]
          rfl
        · rw [ia_if (by omega) (by omega) (by omega) (by omega) (by omega)]
          by_cases e : j = i
          · rw [if_pos (by omega), e]
          · rw [if_neg (by omega)]; exact x4 j (by omega)
        · rw [ia_ne (by omega) (by omega) (by omega)]; exact u4 j (by omega)) (fun s h4 hI => by
        obtain ⟨rfl, f4, x4, u4⟩ := hI
        refine ⟨(), h4, ?_, f4, x4⟩
        unfold B_md_argues_112
        try simp only [j_0, j_1, j_2, j_3, j_4, j_5, j_6, j_7, j_8, j_9, j_10, j_11, j_12, j_13, j_14, j_15, j_16, j_17, j_18, j_19, j_20, j_21, j_22, j_23, j_24, j_25, j_26, j_27, j_28, j_29, j_30, j_31, j_32, j_33, j_34, j_35, j_36, j_37, j_38, j_39, j_40, j_41, j_42, j_43, j_44, j_45, j_46, j_47, j_48, j_49, j_50, j_51, j_52, j_57, j_59, j_63, j_74, j_75, j_93, j_97, j_99, j_100, j_122, j_200, j_255, j_300, j_465, j_496, j_900, j_999, j_1000, j_65536, j_65537, j_99999, j_252645135, j_858993459, j_1431655765, k_0, k_1, k_27, k_32, k_74, k_75, k_100, k_1000, k_65537]
        simp (disch := first | with_reducible assumption | omega | trivial) only [↓bn_s1, ↓bd_s1, ↓ei_l1, ↓ei_r1, ↓bn_if, ↓ilt_1, ↓ilt_0, ↓ieq_1, ↓ieq_0, bn_s1, bd_s1, ei_l1, ei_r1, J_add, J_sub, J_mul, J_neg, J_lt, J_le, J_eq, dv_J, if_pos, if_neg, ↓reduceIte, bitJ, shlJ, orJ, j_0, j_1, j_2, j_3, j_4, j_5, j_6, j_7, j_8, j_9, j_10, j_11, j_12, j_13, j_14, j_15, j_16, j_17, j_18, j_19, j_20, j_21, j_22, j_23, j_24, j_25, j_26, j_27, j_28, j_29, j_30, j_31, j_32, j_33, j_34, j_35, j_36, j_37, j_38, j_39, j_40, j_41, j_42, j_43, j_44, j_45, j_46, j_47, j_48, j_49, j_50, j_51, j_52, j_57, j_59, j_63, j_74, j_75, j_93, j_97, j_99, j_100, j_122, j_200, j_255, j_300, j_465, j_496, j_900, j_999, j_1000, j_65536, j_65537, j_99999, j_252645135, j_858993459, j_1431655765, k_0, k_1, k_27, k_32, k_74, k_75, k_100, k_1000, k_65537])
    exact ⟨y, h4, e4, qr_tr q3 (qr_94 q4 (by omega) (by omega)), x4⟩
  obtain ⟨y3, h3, e3, q3, x3⟩ := lp_for (b := B_md_argues_97 88) (f := FU) (s := (J (al L n : Nat), J ((n : Int) - 1))) (h := h2) (fun i s h' => s = (J (al L (n - i) : Nat), J ((n : Int) - 1 - i)) ∧ Qr h h' ∧ ∀ j : Nat, j < al L (n - i) → ia h' 99 j = vlv L S i (n - i) j) (fun _ h' => Qr h h' ∧ ∀ j : Nat, j < al L (n - (n - 1)) → ia h' 99 j = vlv L S (n - 1) (n - (n - 1)) j) (n - 1) (by unfold FU; omega) ⟨by rw [show (n : Int) - 1 - ((0 : Nat) : Int) = (n : Int) - 1 by omega]; rfl, q2, x2⟩ (fun i s h3 hi hI => by
      obtain ⟨rfl, q3, x3⟩ := hI
      have C3 := RC_qr q3 C
      have ek : (n : Int) - 1 - i = ((n - 1 - i : Nat) : Int) := by omega
      have en : n - i = (n - 1 - i) + 1 := by omega
      have ec := D_choices HL C3 (k := n - 1 - i) (by omega)
      have cb := ch_b HL H1 (n - 1 - i)
      have ak1 := al_b HL H1 (k := n - i) (by omega)
      have dvv := dvN (a := al L (n - i)) (b := ch L (n - 1 - i)) (by omega) (by omega) (by omega)
      have ed : al L (n - i) / ch L (n - 1 - i) = al L (n - 1 - i) := by
        rw [en]
        show al L (n - 1 - i) * ch L (n - 1 - i) / ch L (n - 1 - i) = _
        exact Nat.mul_div_cancel _ (by omega)
      rw [ed] at dvv
      obtain ⟨y4, h4, e4, q4, x4⟩ := lev (n - 1 - i) i h3 (by omega) q3 (by rw [← en]; exact x3)
      have en2 : n - (i + 1) = n - 1 - i := by omega
      refine ⟨(J (al L (n - (i + 1)) : Nat), J ((n : Int) - 1 - (i + 1 : Nat))), h4, ?_, rfl, q4, by rw [en2]; exact x4⟩
      unfold B_md_argues_97
      have e8 : (n : Int) - 1 - ((i + 1 : Nat) : Int) = ((n - 1 - i : Nat) : Int) + -1 := by omega
      rw [en2, ek, jm1, e8]
      try simp only [j_0, j_1, j_2, j_3, j_4, j_5, j_6, j_7, j_8, j_9, j_10, j_11, j_12, j_13, j_14, j_15, j_16, j_17, j_18, j_19, j_20, j_21, j_22, j_23, j_24, j_25, j_26, j_27, j_28, j_29, j_30, j_31, j_32, j_33, j_34, j_35, j_36, j_37, j_38, j_39, j_40, j_41, j_42, j_43, j_44, j_45, j_46, j_47, j_48, j_49, j_50, j_51, j_52, j_57, j_59, j_63, j_74, j_75, j_93, j_97, j_99, j_100, j_122, j_200, j_255, j_300, j_465, j_496, j_900, j_999, j_1000, j_65536, j_65537, j_99999, j_252645135, j_858993459, j_1431655765, k_0, k_1, k_27, k_32, k_74, k_75, k_100, k_1000, k_65537]
      simp (disch := first | with_reducible assumption | omega | trivial) only [↓bn_s1, ↓bd_s1, ↓ei_l1, ↓ei_r1, ↓bn_if, ↓ilt_1, ↓ilt_0, ↓ieq_1, ↓ieq_0, bn_s1, bd_s1, ei_l1, ei_r1, J_add, J_sub, J_mul, J_neg, J_lt, J_le, J_eq, dv_J, if_pos, if_neg, ↓reduceIte, bitJ, shlJ, orJ, j_0, j_1, j_2, j_3, j_4, j_5, j_6, j_7, j_8, j_9, j_10, j_11, j_12, j_13, j_14, j_15, j_16, j_17, j_18, j_19, j_20, j_21, j_22, j_23, j_24, j_25, j_26, j_27, j_28, j_29, j_30, j_31, j_32, j_33, j_34, j_35, j_36, j_37, j_38, j_39, j_40, j_41, j_42, j_43, j_44, j_45, j_46, j_47, j_48, j_49, j_50, j_51, j_52, j_57, j_59, j_63, j_74, j_75, j_93, j_97, j_99, j_100, j_122, j_200, j_255, j_300, j_465, j_496, j_900, j_999, j_1000, j_65536, j_65537, j_99999, j_252645135, j_858993459, j_1431655765, k_0, k_1, k_27, k_32, k_74, k_75, k_100, k_1000, k_65537, ↓bn_e (ec), ec, ↓bn_e (dvv), dvv, ↓bd_e (e4), e4]) (fun s h3 hI => by
      obtain ⟨rfl, q3, x3⟩ := hI
      refine ⟨(), h3, ?_, q3, x3⟩
      unfold B_md_argues_97
      try simp only [j_0, j_1, j_2, j_3, j_4, j_5, j_6, j_7, j_8, j_9, j_10, j_11, j_12, j_13, j_14, j_15, j_16, j_17, j_18, j_19, j_20, j_21, j_22, j_23, j_24, j_25, j_26, j_27, j_28, j_29, j_30, j_31, j_32, j_33, j_34, j_35, j_36, j_37, j_38, j_39, j_40, j_41, j_42, j_43, j_44, j_45, j_46, j_47, j_48, j_49, j_50, j_51, j_52, j_57, j_59, j_63, j_74, j_75, j_93, j_97, j_99, j_100, j_122, j_200, j_255, j_300, j_465, j_496, j_900, j_999, j_1000, j_65536, j_65537, j_99999, j_252645135, j_858993459, j_1431655765, k_0, k_1, k_27, k_32, k_74, k_75, k_100, k_1000, k_65537]
      simp (disch := first | with_reducible assumption | omega | trivial) only [↓bn_s1, ↓bd_s1, ↓ei_l1, ↓ei_r1, ↓bn_if, ↓ilt_1, ↓ilt_0, ↓ieq_1, ↓ieq_0, bn_s1, bd_s1, ei_l1, ei_r1, J_add, J_sub, J_mul, J_neg, J_lt, J_le, J_eq, dv_J, if_pos, if_neg, ↓reduceIte, bitJ, shlJ, orJ, j_0, j_1, j_2, j_3, j_4, j_5, j_6, j_7, j_8, j_9, j_10, j_11, j_12, j_13, j_14, j_15, j_16, j_17, j_18, j_19, j_20, j_21, j_22, j_23, j_24, j_25, j_26, j_27, j_28, j_29, j_30, j_31, j_32, j_33, j_34, j_35, j_36, j_37, j_38, j_39, j_40, j_41, j_42, j_43, j_44, j_45, j_46, j_47, j_48, j_49, j_50, j_51, j_52, j_57, j_59, j_63, j_74, j_75, j_93, j_97, j_99, j_100, j_122, j_200, j_255, j_300, j_465, j_496, j_900, j_999, j_1000, j_65536, j_65537, j_99999, j_252645135, j_858993459, j_1431655765, k_0, k_1, k_27, k_32, k_74, k_75, k_100, k_1000, k_65537])
  refine ⟨h3, ?_, q3, ?_⟩
  · unfold F_md_argues
    rw [ck_e (MS_k C.1)]
    try simp only [j_0, j_1, j_2, j_3, j_4, j_5, j_6, j_7, j_8, j_9, j_10, j_11, j_12, j_13, j_14, j_15, j_16, j_17, j_18, j_19, j_20, j_21, j_22, j_23, j_24, j_25, j_26, j_27, j_28, j_29, j_30, j_31, j_32, j_33, j_34, j_35, j_36, j_37, j_38, j_39, j_40, j_41, j_42, j_43, j_44, j_45, j_46, j_47, j_48, j_49, j_50, j_51, j_52, j_57, j_59, j_63, j_74, j_75, j_93, j_97, j_99, j_100, j_122, j_200, j_255, j_300, j_465, j_496, j_900, j_999, j_1000, j_65536, j_65537, j_99999, j_252645135, j_858993459, j_1431655765, k_0, k_1, k_27, k_32, k_74, k_75, k_100, k_1000, k_65537]
    simp (disch := first | with_reducible assumption | omega | trivial) only [↓bn_s1, ↓bd_s1, ↓ei_l1, ↓ei_r1, ↓bn_if, ↓ilt_1, ↓ilt_0, ↓ieq_1, ↓ieq_0, bn_s1, bd_s1, ei_l1, ei_r1, J_add, J_sub, J_mul, J_neg, J_lt, J_le, J_eq, dv_J, if_pos, if_neg, ↓reduceIte, bitJ, shlJ, orJ, j_0, j_1, j_2, j_3, j_4, j_5, j_6, j_7, j_8, j_9, j_10, j_11, j_12, j_13, j_14, j_15, j_16, j_17, j_18, j_19, j_20, j_21, j_22, j_23, j_24, j_25, j_26, j_27, j_28, j_29, j_30, j_31, j_32, j_33, j_34, j_35, j_36, j_37, j_38, j_39, j_40, j_41, j_42, j_43, j_44, j_45, j_46, j_47, j_48, j_49, j_50, j_51, j_52, j_57, j_59, j_63, j_74, j_75, j_93, j_97, j_99, j_100, j_122, j_200, j_255, j_300, j_465, j_496, j_900, j_999, j_1000, j_65536, j_65537, j_99999, j_252645135, j_858993459, j_1431655765, k_0, k_1, k_27, k_32, k_74, k_75, k_100, k_1000, k_65537, ↓bn_e (e1), e1, ↓bd_e (e2), e2, ↓bd_e (e3), e3]
  · have : n = 0 ∨ 1 ≤ n := by omega
    rcases this with e | e
    · subst e; exact x3
    · have m1 : min n 1 = 1 := by omega
      have m2 : n - (n - 1) = 1 := by omega
      rw [m1]
      rw [m2] at x3
      exact x3
