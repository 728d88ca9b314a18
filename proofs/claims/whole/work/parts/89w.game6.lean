theorem kc_v {a : Ab} (HA : AW a) (c : ¬ qL a 1 0 = 0) (m j : Nat) (hj : j < rn (qL a) + 1) : vlv (qL a) (qS a) m 1 j = gm (qL a) m false (net (qL a) (qS a)) (cjc (qS a 28).toNat j) := by
  have HL := HA.1
  have ce : ch (qL a) 0 = rn (qL a) + 1 := rfl
  have st : St (qL a) (qS a) 1 j = stp (qS a) 0 j := by
    show stp (qS a) 0 (j % ch (qL a) 0) = _
    rw [Nat.mod_eq_of_lt (by omega)]
  unfold vlv
  rw [st]
  unfold stp cjc
  rw [if_neg (by omega)]
  show gm (qL a) m false _ _ = _
  by_cases j0 : j = 0
  · rw [if_pos j0, if_pos j0]
  · rw [if_neg j0, if_neg j0]
    have e : (upS (qS a) 28 (((qS a 28).toNat ||| 2 ^ (j - 1) : Nat) : Int) 28).toNat = (qS a 28).toNat ||| 2 ^ (j - 1) := by
      show (if (28 : Int) = 28 then _ else _ : Int).toNat = _
      rw [if_pos rfl, Int.toNat_natCast]
    rw [e]
    exact gm_e m false _ _ _ (fun i hi => net_28 HL _ _ i hi)
theorem D_valueOf {a : Ab} {h : Hp} {n : Nat} (HA : AW a) (H : RQ a h) (c : ¬ qL a 1 0 = 0) (hn' : n ≤ 4) : ∃ h', F_md_valueOf 88 (J n) h = some (J (w_val a n), h') ∧ Qr h h' ∧ (1 ≤ n → (∀ j : Nat, j < rn (qL a) + 1 → ia h' 99 j = kcf a n j) ∧ w_val a n = kcf a n (kcj a n)) := by
  have HL := HA.1
  have b2 := LW_r HL
  have rne := rn_e HL
  obtain ⟨b, C⟩ := lkq_1 H c
  obtain ⟨h1, e1, q1, x1⟩ := D_argues HA H c hn'
  have C1 := RC_qr q1 C
  have ec := D_choices HL C1 (k := 0) (by omega)
  replace ec : F_md_choices 88 (J 0) h1 = some (J ((rn (qL a) + 1 : Nat) : Int)) := ec
  by_cases n0 : n = 0
  · subst n0
    have v0 : ia h1 99 0 = w_val a ((0 : Nat) : Int) := x1 0 (by show 0 < al (qL a) 0; exact Nat.one_pos)
    have el := lq_for (b := B_md_valueOf_14 88 (J ((0 : Nat) : Int)) h1) (r := J (w_val a ((0 : Nat) : Int))) (f := FU) (s := (J (w_val a ((0 : Nat) : Int)), J 1)) (fun _ => (J (w_val a ((0 : Nat) : Int)), J 1)) 0 (by unfold FU; omega) rfl (fun i hi => by omega) (by
      unfold B_md_valueOf_14
      try simp only [j_0, j_1, j_2, j_3, j_4, j_5, j_6, j_7, j_8, j_9, j_10, j_11, j_12, j_13, j_14, j_15, j_16, j_17, j_18, j_19, j_20, j_21, j_22, j_23, j_24, j_25, j_26, j_27, j_28, j_29, j_30, j_31, j_32, j_33, j_34, j_35, j_36, j_37, j_38, j_39, j_40, j_41, j_42, j_43, j_44, j_45, j_46, j_47, j_48, j_49, j_50, j_51, j_52, j_57, j_59, j_63, j_74, j_75, j_93, j_97, j_99, j_100, j_122, j_200, j_255, j_300, j_465, j_496, j_900, j_999, j_1000, j_65536, j_65537, j_99999, j_252645135, j_858993459, j_1431655765, k_0, k_1, k_27, k_32, k_74, k_75, k_100, k_1000, k_65537]
      simp (disch := first | with_reducible assumption | omega | trivial) only [↓bn_s1, ↓bd_s1, ↓ei_l1, ↓ei_r1, ↓bn_if, ↓ilt_1, ↓ilt_0, ↓ieq_1, ↓ieq_0, bn_s1, bd_s1, ei_l1, ei_r1, J_add, J_sub, J_mul, J_neg, J_lt, J_le, J_eq, dv_J, rm_J, if_pos, if_neg, ↓reduceIte, bitJ, shlJ, orJ, j_0, j_1, j_2, j_3, j_4, j_5, j_6, j_7, j_8, j_9, j_10, j_11, j_12, j_13, j_14, j_15, j_16, j_17, j_18, j_19, j_20, j_21, j_22, j_23, j_24, j_25, j_26, j_27, j_28, j_29, j_30, j_31, j_32, j_33, j_34, j_35, j_36, j_37, j_38, j_39, j_40, j_41, j_42, j_43, j_44, j_45, j_46, j_47, j_48, j_49, j_50, j_51, j_52, j_57, j_59, j_63, j_74, j_75, j_93, j_97, j_99, j_100, j_122, j_200, j_255, j_300, j_465, j_496, j_900, j_999, j_1000, j_65536, j_65537, j_99999, j_252645135, j_858993459, j_1431655765, k_0, k_1, k_27, k_32, k_74, k_75, k_100, k_1000, k_65537])
    refine ⟨h1, ?_, q1, fun x => by omega⟩
    unfold F_md_valueOf
    rw [ck_e (MS_k C.1)]
    try simp only [j_0, j_1, j_2, j_3, j_4, j_5, j_6, j_7, j_8, j_9, j_10, j_11, j_12, j_13, j_14, j_15, j_16, j_17, j_18, j_19, j_20, j_21, j_22, j_23, j_24, j_25, j_26, j_27, j_28, j_29, j_30, j_31, j_32, j_33, j_34, j_35, j_36, j_37, j_38, j_39, j_40, j_41, j_42, j_43, j_44, j_45, j_46, j_47, j_48, j_49, j_50, j_51, j_52, j_57, j_59, j_63, j_74, j_75, j_93, j_97, j_99, j_100, j_122, j_200, j_255, j_300, j_465, j_496, j_900, j_999, j_1000, j_65536, j_65537, j_99999, j_252645135, j_858993459, j_1431655765, k_0, k_1, k_27, k_32, k_74, k_75, k_100, k_1000, k_65537]
    simp (disch := first | with_reducible assumption | omega | trivial) only [↓bn_s1, ↓bd_s1, ↓ei_l1, ↓ei_r1, ↓bn_if, ↓ilt_1, ↓ilt_0, ↓ieq_1, ↓ieq_0, bn_s1, bd_s1, ei_l1, ei_r1, J_add, J_sub, J_mul, J_neg, J_lt, J_le, J_eq, dv_J, rm_J, if_pos, if_neg, ↓reduceIte, bitJ, shlJ, orJ, j_0, j_1, j_2, j_3, j_4, j_5, j_6, j_7, j_8, j_9, j_10, j_11, j_12, j_13, j_14, j_15, j_16, j_17, j_18, j_19, j_20, j_21, j_22, j_23, j_24, j_25, j_26, j_27, j_28, j_29, j_30, j_31, j_32, j_33, j_34, j_35, j_36, j_37, j_38, j_39, j_40, j_41, j_42, j_43, j_44, j_45, j_46, j_47, j_48, j_49, j_50, j_51, j_52, j_57, j_59, j_63, j_74, j_75, j_93, j_97, j_99, j_100, j_122, j_200, j_255, j_300, j_465, j_496, j_900, j_999, j_1000, j_65536, j_65537, j_99999, j_252645135, j_858993459, j_1431655765, k_0, k_1, k_27, k_32, k_74, k_75, k_100, k_1000, k_65537, ↓bn_e (e1), e1, m_i C1.1, ↓m_i_b C1.1, m_p C1.1, ↓m_p_b C1.1, m_l C1.1, ↓m_l_b C1.1, m_pl C1.1, ↓m_pl_b C1.1, mr_15 C1.1, ↓mr_15_b C1.1, mr_16 C1.1, ↓mr_16_b C1.1, mr_17 C1.1, ↓mr_17_b C1.1, mr_18 C1.1, ↓mr_18_b C1.1, mr_21 C1.1, ↓mr_21_b C1.1, mr_22 C1.1, ↓mr_22_b C1.1, mr_23 C1.1, ↓mr_23_b C1.1, mr_24 C1.1, ↓mr_24_b C1.1, mr_25 C1.1, ↓mr_25_b C1.1, mr_30 C1.1, ↓mr_30_b C1.1, mr_31 C1.1, ↓mr_31_b C1.1, m90a C1.1, ↓m90a_b C1.1, m90s C1.1, ↓m90s_b C1.1, m91a C1.1, ↓m91a_b C1.1, m91s C1.1, ↓m91s_b C1.1, m92a C1.1, ↓m92a_b C1.1, m92s C1.1, ↓m92s_b C1.1, m93a C1.1, ↓m93a_b C1.1, m93s C1.1, ↓m93s_b C1.1, m94a C1.1, ↓m94a_b C1.1, m94s C1.1, ↓m94s_b C1.1, m95a C1.1, ↓m95a_b C1.1, m95s C1.1, ↓m95s_b C1.1, m96a C1.1, ↓m96a_b C1.1, m96s C1.1, ↓m96s_b C1.1, m97a C1.1, ↓m97a_b C1.1, m97s C1.1, ↓m97s_b C1.1, m98a C1.1, ↓m98a_b C1.1, m98s C1.1, ↓m98s_b C1.1, m99a C1.1, ↓m99a_b C1.1, m99s C1.1, ↓m99s_b C1.1, m100a C1.1, ↓m100a_b C1.1, m100s C1.1, ↓m100s_b C1.1, v0, ↓bn_e (el), el]
  · have m1 : min n 1 = 1 := by omega
    rw [m1] at x1
    have ea : al (qL a) 1 = rn (qL a) + 1 := by show 1 * ch (qL a) 0 = _; rw [Nat.one_mul]; rfl
    rw [ea] at x1
    obtain ⟨f, hf⟩ : ∃ f, f = kcf a n := ⟨_, rfl⟩
    have fv : ∀ j : Nat, j < rn (qL a) + 1 → ia h1 99 j = f j := fun j hj => by
      rw [x1 j hj, kc_v HA c _ j hj, hf]
      unfold kcf
      rw [Int.toNat_natCast, Int.toNat_natCast]
    have gb : ∀ j : Nat, 0 ≤ f j ∧ f j ≤ 5 := fun j => by rw [hf]; exact gm_b HL _ _ _ _
    have ev : w_val a n = f (lw f (rn (qL a) + 1) : Nat) := by
      unfold w_val
      rw [Int.toNat_natCast]
      obtain ⟨k, rfl⟩ : ∃ k, n = k + 1 := ⟨n - 1, by omega⟩
      show gmk (qL a) (fun j => gm (qL a) k false (net (qL a) (qS a)) (cjc (qS a 28).toNat j)) = _
      unfold gmk
      have ef : (fun j : Int => gm (qL a) k false (net (qL a) (qS a)) (cjc (qS a 28).toNat j.toNat)) = f := by
        rw [hf]
        funext j
        unfold kcf
        rw [Int.toNat_natCast, Nat.add_sub_cancel]
      rw [ef]
      have := congrFun ef ((lw f (rn (qL a) + 1) : Nat) : Int)
      rw [← this]
      show _ = gm (qL a) k false (net (qL a) (qS a)) (cjc (qS a 28).toNat ((lw f (rn (qL a) + 1) : Nat) : Int).toNat)
      rw [Int.toNat_natCast]
    have lw01 : lw f (0 + 1) = 0 := by have := lw_lt f 0; omega
    have v0 : ia h1 99 0 = f ((0 : Nat) : Int) := fv 0 (by omega)
    have el := lq_for (b := B_md_valueOf_14 88 (J n) h1) (r := J (f (lw f (rn (qL a) + 1) : Nat))) (f := FU) (s := (J (f ((0 : Nat) : Int)), J 1)) (fun i => (J (f (lw f (i + 1) : Nat)), J (i + 1 : Nat))) (rn (qL a)) (by unfold FU; omega) (by rw [lw01]; rfl) (fun i hi => by
      have v := fv (i + 1) (by omega)
      have g1 := gb (i + 1)
      have g2 := gb (lw f (i + 1))
      have e6 : lw f (i + 1 + 1) = if f ((i + 1 : Nat) : Int) < f (lw f (i + 1) : Nat) then i + 1 else lw f (i + 1) := rfl
      unfold B_md_valueOf_14
      by_cases lt : f ((i + 1 : Nat) : Int) < f (lw f (i + 1) : Nat)
      · rw [if_pos lt] at e6
        rw [e6]
        try simp only [j_0, j_1, j_2, j_3, j_4, j_5, j_6, j_7, j_8, j_9, j_10, j_11, j_12, j_13, j_14, j_15, j_16, j_17, j_18, j_19, j_20, j_21, j_22, j_23, j_24, j_25, j_26, j_27, j_28, j_29, j_30, j_31, j_32, j_33, j_34, j_35, j_36, j_37, j_38, j_39, j_40, j_41, j_42, j_43, j_44, j_45, j_46, j_47, j_48, j_49, j_50, j_51, j_52, j_57, j_59, j_63, j_74, j_75, j_93, j_97, j_99, j_100, j_122, j_200, j_255, j_300, j_465, j_496, j_900, j_999, j_1000, j_65536, j_65537, j_99999, j_252645135, j_858993459, j_1431655765, k_0, k_1, k_27, k_32, k_74, k_75, k_100, k_1000, k_65537]
        simp (disch := first | with_reducible assumption | omega | trivial) only [↓bn_s1, ↓bd_s1, ↓ei_l1, ↓ei_r1, ↓bn_if, ↓ilt_1, ↓ilt_0, ↓ieq_1, ↓ieq_0, bn_s1, bd_s1, ei_l1, ei_r1, J_add, J_sub, J_mul, J_neg, J_lt, J_le, J_eq, dv_J, rm_J, if_pos, if_neg, ↓reduceIte, bitJ, shlJ, orJ, j_0, j_1, j_2, j_3, j_4, j_5, j_6, j_7, j_8, j_9, j_10, j_11, j_12, j_13, j_14, j_15, j_16, j_17, j_18, j_19, j_20, j_21, j_22, j_23, j_24, j_25, j_26, j_27, j_28, j_29, j_30, j_31, j_32, j_33, j_34, j_35, j_36, j_37, j_38, j_39, j_40, j_41, j_42, j_43, j_44, j_45, j_46, j_47, j_48, j_49, j_50, j_51, j_52, j_57, j_59, j_63, j_74, j_75, j_93, j_97, j_99, j_100, j_122, j_200, j_255, j_300, j_465, j_496, j_900, j_999, j_1000, j_65536, j_65537, j_99999, j_252645135, j_858993459, j_1431655765, k_0, k_1, k_27, k_32, k_74, k_75, k_100, k_1000, k_65537, ↓bn_e (ec), ec, m_i C1.1, ↓m_i_b C1.1, m_p C1.1, ↓m_p_b C1.1, m_l C1.1, ↓m_l_b C1.1, m_pl C1.1, ↓m_pl_b C1.1, mr_15 C1.1, ↓mr_15_b C1.1, mr_16 C1.1, ↓mr_16_b C1.1, mr_17 C1.1, ↓mr_17_b C1.1, mr_18 C1.1, ↓mr_18_b C1.1, mr_21 C1.1, ↓mr_21_b C1.1, mr_22 C1.1, ↓mr_22_b C1.1, mr_23 C1.1, ↓mr_23_b C1.1, mr_24 C1.1, ↓mr_24_b C1.1, mr_25 C1.1, ↓mr_25_b C1.1, mr_30 C1.1, ↓mr_30_b C1.1, mr_31 C1.1, ↓mr_31_b C1.1, m90a C1.1, ↓m90a_b C1.1, m90s C1.1, ↓m90s_b C1.1, m91a C1.1, ↓m91a_b C1.1, m91s C1.1, ↓m91s_b C1.1, m92a C1.1, ↓m92a_b C1.1, m92s C1.1, ↓m92s_b C1.1, m93a C1.1, ↓m93a_b C1.1, m93s C1.1, ↓m93s_b C1.1, m94a C1.1, ↓m94a_b C1.1, m94s C1.1, ↓m94s_b C1.1, m95a C1.1, ↓m95a_b C1.1, m95s C1.1, ↓m95s_b C1.1, m96a C1.1, ↓m96a_b C1.1, m96s C1.1, ↓m96s_b C1.1, m97a C1.1, ↓m97a_b C1.1, m97s C1.1, ↓m97s_b C1.1, m98a C1.1, ↓m98a_b C1.1, m98s C1.1, ↓m98s_b C1.1, m99a C1.1, ↓m99a_b C1.1, m99s C1.1, ↓m99s_b C1.1, m100a C1.1, ↓m100a_b C1.1, m100s C1.1, ↓m100s_b C1.1, v]
        rfl
      · rw [if_neg lt] at e6
        rw [e6]
        try simp only [j_0, j_1, j_2, j_3, j_4, j_5, j_6, j_7, j_8, j_9, j_10, j_11, j_12, j_13, j_14, j_15, j_16, j_17, j_18, j_19, j_20, j_21, j_22, j_23, j_24, j_25, j_26, j_27, j_28, j_29, j_30, j_31, j_32, j_33, j_34, j_35, j_36, j_37, j_38, j_39, j_40, j_41, j_42, j_43, j_44, j_45, j_46, j_47, j_48, j_49, j_50, j_51, j_52, j_57, j_59, j_63, j_74, j_75, j_93, j_97, j_99, j_100, j_122, j_200, j_255, j_300, j_465, j_496, j_900, j_999, j_1000, j_65536, j_65537, j_99999, j_252645135, j_858993459, j_1431655765, k_0, k_1, k_27, k_32, k_74, k_75, k_100, k_1000, k_65537]
        simp (disch := first | with_reducible assumption | omega | trivial) only [↓bn_s1, ↓bd_s1, ↓ei_l1, ↓ei_r1, ↓bn_if, ↓ilt_1, ↓ilt_0, ↓ieq_1, ↓ieq_0, bn_s1, bd_s1, ei_l1, ei_r1, J_add, J_sub, J_mul, J_neg, J_lt, J_le, J_eq, dv_J, rm_J, if_pos, if_neg, ↓reduceIte, bitJ, shlJ, orJ, j_0, j_1, j_2, j_3, j_4, j_5, j_6, j_7, j_8, j_9, j_10, j_11, j_12, j_13, j_14, j_15, j_16, j_17, j_18, j_19, j_20, j_21, j_22, j_23, j_24, j_25, j_26, j_27, j_28, j_29, j_30, j_31, j_32, j_33, j_34, j_35, j_36, j_37, j_38, j_39, j_40, j_41, j_42, j_43, j_44, j_45, j_46, j_47, j_48, j_49, j_50, j_51, j_52, j_57, j_59, j_63, j_74, j_75, j_93, j_97, j_99, j_100, j_122, j_200, j_255, j_300, j_465, j_496, j_900, j_999, j_1000, j_65536, j_65537, j_99999, j_252645135, j_858993459, j_1431655765, k_0, k_1, k_27, k_32, k_74, k_75, k_100, k_1000, k_65537, ↓bn_e (ec), ec, m_i C1.1, ↓m_i_b C1.1, m_p C1.1, ↓m_p_b C1.1, m_l C1.1, ↓m_l_b C1.1, m_pl C1.1, ↓m_pl_b C1.1, mr_15 C1.1, ↓mr_15_b C1.1, mr_16 C1.1, ↓mr_16_b C1.1, mr_17 C1.1, ↓mr_17_b C1.1, mr_18 C1.1, ↓mr_18_b C1.1, mr_21 C1.1, ↓mr_21_b C1.1, mr_22 C1.1, ↓mr_22_b C1.1, mr_23 C1.1, ↓mr_23_b C1.1, mr_24 C1.1, ↓mr_24_b C1.1, mr_25 C1.1, ↓mr_25_b C1.1, mr_30 C1.1, ↓mr_30_b C1.1, mr_31 C1.1, ↓mr_31_b C1.1, m90a C1.1, ↓m90a_b C1.1, m90s C1.1, ↓m90s_b C1.1, m91a C1.1, ↓m91a_b C1.1, m91s C1.1, ↓m91s_b C1.1, m92a C1.1, ↓m92a_b C1.1, m92s C1.1, ↓m92s_b C1.1, m93a C1.1, ↓m93a_b C1.1, m93s C1.1, ↓m93s_b C1.1, m94a C1.1, ↓m94a_b C1.1, m94s C1.1, ↓m94s_b C1.1, m95a C1.1, ↓m95a_b C1.1, m95s C1.1, ↓m95s_b C1.1, m96a C1.1, ↓m96a_b C1.1, m96s C1.1, ↓m96s_b C1.1, m97a C1.1, ↓m97a_b C1.1, m97s C1.1, ↓m97s_b C1.1, m98a C1.1, ↓m98a_b C1.1, m98s C1.1, ↓m98s_b C1.1, m99a C1.1, ↓m99a_b C1.1, m99s C1.1, ↓m99s_b C1.1, m100a C1.1, ↓m100a_b C1.1, m100s C1.1, ↓m100s_b C1.1, v]
        rfl) (by
      unfold B_md_valueOf_14
      try simp only [j_0, j_1, j_2, j_3, j_4, j_5, j_6, j_7, j_8, j_9, j_10, j_11, j_12, j_13, j_14, j_15, j_16, j_17, j_18, j_19, j_20, j_21, j_22, j_23, j_24, j_25, j_26, j_27, j_28, j_29, j_30, j_31, j_32, j_33, j_34, j_35, j_36, j_37, j_38, j_39, j_40, j_41, j_42, j_43, j_44, j_45, j_46, j_47, j_48, j_49, j_50, j_51, j_52, j_57, j_59, j_63, j_74, j_75, j_93, j_97, j_99, j_100, j_122, j_200, j_255, j_300, j_465, j_496, j_900, j_999, j_1000, j_65536, j_65537, j_99999, j_252645135, j_858993459, j_1431655765, k_0, k_1, k_27, k_32, k_74, k_75, k_100, k_1000, k_65537]
      simp (disch := first | with_reducible assumption | omega | trivial) only [↓bn_s1, ↓bd_s1, ↓ei_l1, ↓ei_r1, ↓bn_if, ↓ilt_1, ↓ilt_0, ↓ieq_1, ↓ieq_0, bn_s1, bd_s1, ei_l1, ei_r1, J_add, J_sub, J_mul, J_neg, J_lt, J_le, J_eq, dv_J, rm_J, if_pos, if_neg, ↓reduceIte, bitJ, shlJ, orJ, j_0, j_1, j_2, j_3, j_4, j_5, j_6, j_7, j_8, j_9, j_10, j_11, j_12, j_13, j_14, j_15, j_16, j_17, j_18, j_19, j_20, j_21, j_22, j_23, j_24, j_25, j_26, j_27, j_28, j_29, j_30, j_31, j_32, j_33, j_34, j_35, j_36, j_37, j_38, j_39, j_40, j_41, j_42, j_43, j_44, j_45, j_46, j_47, j_48, j_49, j_50, j_51, j_52, j_57, j_59, j_63, j_74, j_75, j_93, j_97, j_99, j_100, j_122, j_200, j_255, j_300, j_465, j_496, j_900, j_999, j_1000, j_65536, j_65537, j_99999, j_252645135, j_858993459, j_1431655765, k_0, k_1, k_27, k_32, k_74, k_75, k_100, k_1000, k_65537, ↓bn_e (ec), ec])
    refine ⟨h1, ?_, q1, fun _ => ⟨by rw [← hf]; exact fv, by rw [ev]; unfold kcj; rw [← hf]⟩⟩
    unfold F_md_valueOf
    rw [ck_e (MS_k C.1), ev]
    try simp only [j_0, j_1, j_2, j_3, j_4, j_5, j_6, j_7, j_8, j_9, j_10, j_11, j_12, j_13, j_14, j_15, j_16, j_17, j_18, j_19, j_20, j_21, j_22, j_23, j_24, j_25, j_26, j_27, j_28, j_29, j_30, j_31, j_32, j_33, j_34, j_35, j_36, j_37, j_38, j_39, j_40, j_41, j_42, j_43, j_44, j_45, j_46, j_47, j_48, j_49, j_50, j_51, j_52, j_57, j_59, j_63, j_74, j_75, j_93, j_97, j_99, j_100, j_122, j_200, j_255, j_300, j_465, j_496, j_900, j_999, j_1000, j_65536, j_65537, j_99999, j_252645135, j_858993459, j_1431655765, k_0, k_1, k_27, k_32, k_74, k_75, k_100, k_1000, k_65537]
    simp (disch := first | with_reducible assumption | omega | trivial) only [↓bn_s1, ↓bd_s1, ↓ei_l1, ↓ei_r1, ↓bn_if, ↓ilt_1, ↓ilt_0, ↓ieq_1, ↓ieq_0, bn_s1, bd_s1, ei_l1, ei_r1, J_add, J_sub, J_mul, J_neg, J_lt, J_le, J_eq, dv_J, rm_J, if_pos, if_neg, ↓reduceIte, bitJ, shlJ, orJ, j_0, j_1, j_2, j_3, j_4, j_5, j_6, j_7, j_8, j_9, j_10, j_11, j_12, j_13, j_14, j_15, j_16, j_17, j_18, j_19, j_20, j_21, j_22, j_23, j_24, j_25, j_26, j_27, j_28, j_29, j_30, j_31, j_32, j_33, j_34, j_35, j_36, j_37, j_38, j_39, j_40, j_41, j_42, j_43, j_44, j_45, j_46, j_47, j_48, j_49, j_50, j_51, j_52, j_57, j_59, j_63, j_74, j_75, j_93, j_97, j_99, j_100, j_122, j_200, j_255, j_300, j_465, j_496, j_900, j_999, j_1000, j_65536, j_65537, j_99999, j_252645135, j_858993459, j_1431655765, k_0, k_1, k_27, k_32, k_74, k_75, k_100, k_1000, k_65537, ↓bn_e (e1), e1, m_i C1.1, ↓m_i_b C1.1, m_p C1.1, ↓m_p_b C1.1, m_l C1.1, ↓m_l_b C1.1, m_pl C1.1, ↓m_pl_b C1.1, mr_15 C1.1, ↓mr_15_b C1.1, mr_16 C1.1, ↓mr_16_b C1.1, mr_17 C1.1, ↓mr_17_b C1.1, mr_18 C1.1, ↓mr_18_b C1.1, mr_21 C1.1, ↓mr_21_b C1.1, mr_22 C1.1, ↓mr_22_b C1.1, mr_23 C1.1, ↓mr_23_b C1.1, mr_24 C1.1, ↓mr_24_b C1.1, mr_25 C1.1, ↓mr_25_b C1.1, mr_30 C1.1, ↓mr_30_b C1.1, mr_31 C1.1, ↓mr_31_b C1.1, m90a C1.1, ↓m90a_b C1.1, m90s C1.1, ↓m90s_b C1.1, m91a C1.1, ↓m91a_b C1.1, m91s C1.1, ↓m91s_b C1.1, m92a C1.1, ↓m92a_b C1.1, m92s C1.1, ↓m92s_b C1.1, m93a C1.1, ↓m93a_b C1.1, m93s C1.1, ↓m93s_b C1.1, m94a C1.1, ↓m94a_b C1.1, m94s C1.1, ↓m94s_b C1.1, m95a C1.1, ↓m95a_b C1.1, m95s C1.1, ↓m95s_b C1.1, m96a C1.1, ↓m96a_b C1.1, m96s C1.1, ↓m96s_b C1.1, m97a C1.1, ↓m97a_b C1.1, m97s C1.1, ↓m97s_b C1.1, m98a C1.1, ↓m98a_b C1.1, m98s C1.1, ↓m98s_b C1.1, m99a C1.1, ↓m99a_b C1.1, m99s C1.1, ↓m99s_b C1.1, m100a C1.1, ↓m100a_b C1.1, m100s C1.1, ↓m100s_b C1.1, v0, ↓bn_e (el), el]
theorem d_val {a : Ab} {h : Hp} {n : Int} (HA : AW a) (H : RI a h) (hn' : rng n) : Dq (F_md_value 88 (J n) h) h (if ¬ qL a 1 0 = 0 ∧ (0 ≤ n ∧ n ≤ 4) then w_val a n else -1) (t_2 (¬ qL a 1 0 = 0) (0 ≤ n ∧ n ≤ 4)) := by
  unfold F_md_value
  refine dq_N j_0 j_4 hn' (by omega) H (fun c d h1 H1 => ?_)
  obtain ⟨N, rfl⟩ := Int.eq_ofNat_of_zero_le d.1
  obtain ⟨h2, e2, q2, _⟩ := D_valueOf HA (RQ_ri H1) c (n := N) (by omega)
  refine dg_e H1.1 q2 ?_
  rw [e2, bd_s1]
theorem d_kcu {a : Ab} {h : Hp} {n : Int} (HA : AW a) (H : RI a h) (hn' : rng n) : Dq (F_md_kingCuts 88 (J n) h) h (if ¬ qL a 1 0 = 0 ∧ (1 ≤ n ∧ n ≤ 4) then w_kcu a n else -1) (t_2 (¬ qL a 1 0 = 0) (1 ≤ n ∧ n ≤ 4)) := by
  unfold F_md_kingCuts
  refine dq_N j_1 j_4 hn' (by omega) H (fun c d h1 H1 => ?_)
  obtain ⟨N, rfl⟩ := Int.eq_ofNat_of_zero_le (show 0 ≤ n by omega)
  have b2 := LW_r HA.1
  have rne := rn_e HA.1
  obtain ⟨h2, e2, q2, x2⟩ := D_valueOf HA (RQ_ri H1) c (n := N) (by omega)
  obtain ⟨x2, ew⟩ := x2 (by omega)
  have M2 := MS_fm q2.1 H1.1
  have gb : ∀ j : Nat, 0 ≤ kcf a N j ∧ kcf a N j ≤ 5 := fun j => gm_b HA.1 _ _ _ _
  have jl : kcj a N < rn (qL a) + 1 := lwl _ (by omega)
  have lm := lw_min (f := kcf a N) (rn (qL a))
  have el := lq_for (b := B_md_kingCuts_41 88 (J (w_val a N)) h2) (r := J (kcj a N : Nat)) (f := FU) (s := J 0) (fun i => J i) (kcj a N) (by unfold FU; omega) rfl (fun i hi => by
    have v := x2 i (by omega)
    have g1 := gb i
    have g2 := gb (kcj a N)
    have lt := (lm i (by omega)).2 hi
    replace lt : kcf a N (kcj a N : Nat) < kcf a N i := lt
    rw [ew]
    unfold B_md_kingCuts_41
    try simp only [j_0, j_1, j_2, j_3, j_4, j_5, j_6, j_7, j_8, j_9, j_10, j_11, j_12, j_13, j_14, j_15, j_16, j_17, j_18, j_19, j_20, j_21, j_22, j_23, j_24, j_25, j_26, j_27, j_28, j_29, j_30, j_31, j_32, j_33, j_34, j_35, j_36, j_37, j_38, j_39, j_40, j_41, j_42, j_43, j_44, j_45, j_46, j_47, j_48, j_49, j_50, j_51, j_52, j_57, j_59, j_63, j_74, j_75, j_93, j_97, j_99, j_100, j_122, j_200, j_255, j_300, j_465, j_496, j_900, j_999, j_1000, j_65536, j_65537, j_99999, j_252645135, j_858993459, j_1431655765, k_0, k_1, k_27, k_32, k_74, k_75, k_100, k_1000, k_65537]
    simp (disch := first | with_reducible assumption | omega | trivial) only [↓bn_s1, ↓bd_s1, ↓ei_l1, ↓ei_r1, ↓bn_if, ↓ilt_1, ↓ilt_0, ↓ieq_1, ↓ieq_0, bn_s1, bd_s1, ei_l1, ei_r1, J_add, J_sub, J_mul, J_neg, J_lt, J_le, J_eq, dv_J, rm_J, if_pos, if_neg, ↓reduceIte, bitJ, shlJ, orJ, j_0, j_1, j_2, j_3, j_4, j_5, j_6, j_7, j_8, j_9, j_10, j_11, j_12, j_13, j_14, j_15, j_16, j_17, j_18, j_19, j_20, j_21, j_22, j_23, j_24, j_25, j_26, j_27, j_28, j_29, j_30, j_31, j_32, j_33, j_34, j_35, j_36, j_37, j_38, j_39, j_40, j_41, j_42, j_43, j_44, j_45, j_46, j_47, j_48, j_49, j_50, j_51, j_52, j_57, j_59, j_63, j_74, j_75, j_93, j_97, j_99, j_100, j_122, j_200, j_255, j_300, j_465, j_496, j_900, j_999, j_1000, j_65536, j_65537, j_99999, j_252645135, j_858993459, j_1431655765, k_0, k_1, k_27, k_32, k_74, k_75, k_100, k_1000, k_65537, m_i M2, ↓m_i_b M2, m_p M2, ↓m_p_b M2, m_l M2, ↓m_l_b M2, m_pl M2, ↓m_pl_b M2, mr_15 M2, ↓mr_15_b M2, mr_16 M2, ↓mr_16_b M2, mr_17 M2, ↓mr_17_b M2, mr_18 M2, ↓mr_18_b M2, mr_21 M2, ↓mr_21_b M2, mr_22 M2, ↓mr_22_b M2, mr_23 M2, ↓mr_23_b M2, mr_24 M2, ↓mr_24_b M2, mr_25 M2, ↓mr_25_b M2, mr_30 M2, ↓mr_30_b M2, mr_31 M2, ↓mr_31_b M2, m90a M2, ↓m90a_b M2, m90s M2, ↓m90s_b M2, m91a M2, ↓m91a_b M2, m91s M2, ↓m91s_b M2, m92a M2, ↓m92a_b M2, m92s M2, ↓m92s_b M2, m93a M2, ↓m93a_b M2, m93s M2, ↓m93s_b M2, m94a M2, ↓m94a_b M2, m94s M2, ↓m94s_b M2, m95a M2, ↓m95a_b M2, m95s M2, ↓m95s_b M2, m96a M2, ↓m96a_b M2, m96s M2, ↓m96s_b M2, m97a M2, ↓m97a_b M2, m97s M2, ↓m97s_b M2, m98a M2, ↓m98a_b M2, m98s M2, ↓m98s_b M2, m99a M2, ↓m99a_b M2, m99s M2, ↓m99s_b M2, m100a M2, ↓m100a_b M2, m100s M2, ↓m100s_b M2, v]
    rfl) (by
    have v := x2 (kcj a N) jl
    rw [ew]
    unfold B_md_kingCuts_41
    try simp only [j_0, j_1, j_2, j_3, j_4, j_5, j_6, j_7, j_8, j_9, j_10, j_11, j_12, j_13, j_14, j_15, j_16, j_17, j_18, j_19, j_20, j_21, j_22, j_23, j_24, j_25, j_26, j_27, j_28, j_29, j_30, j_31, j_32, j_33, j_34, j_35, j_36, j_37, j_38, j_39, j_40, j_41, j_42, j_43, j_44, j_45, j_46, j_47, j_48, j_49, j_50, j_51, j_52, j_57, j_59, j_63, j_74, j_75, j_93, j_97, j_99, j_100, j_122, j_200, j_255, j_300, j_465, j_496, j_900, j_999, j_1000, j_65536, j_65537, j_99999, j_252645135, j_858993459, j_1431655765, k_0, k_1, k_27, k_32, k_74, k_75, k_100, k_1000, k_65537]
    simp (disch := first | with_reducible assumption | omega | trivial) only [↓bn_s1, ↓bd_s1, ↓ei_l1, ↓ei_r1, ↓bn_if, ↓ilt_1, ↓ilt_0, ↓ieq_1, ↓ieq_0, bn_s1, bd_s1, ei_l1, ei_r1, J_add, J_sub, J_mul, J_neg, J_lt, J_le, J_eq, dv_J, rm_J, if_pos, if_neg, ↓reduceIte, bitJ, shlJ, orJ, j_0, j_1, j_2, j_3, j_4, j_5, j_6, j_7, j_8, j_9, j_10, j_11, j_12, j_13, j_14, j_15, j_16, j_17, j_18, j_19, j_20, j_21, j_22, j_23, j_24, j_25, j_26, j_27, j_28, j_29, j_30, j_31, j_32, j_33, j_34, j_35, j_36, j_37, j_38, j_39, j_40, j_41, j_42, j_43, j_44, j_45, j_46, j_47, j_48, j_49, j_50, j_51, j_52, j_57, j_59, j_63, j_74, j_75, j_93, j_97, j_99, j_100, j_122, j_200, j_255, j_300, j_465, j_496, j_900, j_999, j_1000, j_65536, j_65537, j_99999, j_252645135, j_858993459, j_1431655765, k_0, k_1, k_27, k_32, k_74, k_75, k_100, k_1000, k_65537, m_i M2, ↓m_i_b M2, m_p M2, ↓m_p_b M2, m_l M2, ↓m_l_b M2, m_pl M2, ↓m_pl_b M2, mr_15 M2, ↓mr_15_b M2, mr_16 M2, ↓mr_16_b M2, mr_17 M2, ↓mr_17_b M2, mr_18 M2, ↓mr_18_b M2, mr_21 M2, ↓mr_21_b M2, mr_22 M2, ↓mr_22_b M2, mr_23 M2, ↓mr_23_b M2, mr_24 M2, ↓mr_24_b M2, mr_25 M2, ↓mr_25_b M2, mr_30 M2, ↓mr_30_b M2, mr_31 M2, ↓mr_31_b M2, m90a M2, ↓m90a_b M2, m90s M2, ↓m90s_b M2, m91a M2, ↓m91a_b M2, m91s M2, ↓m91s_b M2, m92a M2, ↓m92a_b M2, m92s M2, ↓m92s_b M2, m93a M2, ↓m93a_b M2, m93s M2, ↓m93s_b M2, m94a M2, ↓m94a_b M2, m94s M2, ↓m94s_b M2, m95a M2, ↓m95a_b M2, m95s M2, ↓m95s_b M2, m96a M2, ↓m96a_b M2, m96s M2, ↓m96s_b M2, m97a M2, ↓m97a_b M2, m97s M2, ↓m97s_b M2, m98a M2, ↓m98a_b M2, m98s M2, ↓m98s_b M2, m99a M2, ↓m99a_b M2, m99s M2, ↓m99s_b M2, m100a M2, ↓m100a_b M2, m100s M2, ↓m100s_b M2, v])
  refine dg_e H1.1 q2 ?_
  unfold w_kcu
  rw [e2, bd_s1, j_0, el, bn_s1, jm2, j_1]
  by_cases k0 : kcj a N = 0
  · rw [if_pos k0, ieq_1 (by omega), bn_s1]
  · rw [if_neg k0, ieq_0 (by omega) (by omega) (by omega) (by omega) (by omega), bn_s1, J_sub]
