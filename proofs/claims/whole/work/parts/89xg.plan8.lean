/-! the reference's plans -/
theorem D_options {L : Lk} {b : Nat} {h : Hp} {n : Nat} (HL : LW L) (C : RC L b h) : F_md_options 88 (J n) h = some (J ((1 + n * hn L : Nat) : Int)) := by
  have hne := hn_e HL
  have e : 1 + (n : Int) * L 1 0 = ((1 + n * hn L : Nat) : Int) := by rw [← hne, Int.natCast_add, Int.natCast_mul]; rfl
  unfold F_md_options
  rw [ck_e (MS_k C.1)]
  try simp only [j_0, j_1, j_2, j_3, j_4, j_5, j_6, j_7, j_8, j_9, j_10, j_11, j_12, j_13, j_14, j_15, j_16, j_17, j_18, j_19, j_20, j_21, j_22, j_23, j_24, j_25, j_26, j_27, j_28, j_29, j_30, j_31, j_32, j_33, j_34, j_35, j_36, j_37, j_38, j_39, j_40, j_41, j_42, j_43, j_44, j_45, j_46, j_47, j_48, j_49, j_50, j_51, j_52, j_57, j_59, j_63, j_74, j_75, j_93, j_97, j_99, j_100, j_122, j_200, j_255, j_300, j_465, j_496, j_900, j_999, j_1000, j_65536, j_65537, j_99999, j_252645135, j_858993459, j_1431655765, k_0, k_1, k_27, k_32, k_74, k_75, k_100, k_1000, k_65537]
  simp (disch := first | with_reducible assumption | omega | trivial) only [↓bn_s1, ↓bd_s1, ↓ei_l1, ↓ei_r1, ↓bn_if, ↓ilt_1, ↓ilt_0, ↓ieq_1, ↓ieq_0, bn_s1, bd_s1, ei_l1, ei_r1, J_add, J_sub, J_mul, J_neg, J_lt, J_le, J_eq, dv_J, rm_J, if_pos, if_neg, ↓reduceIte, bitJ, shlJ, orJ, j_0, j_1, j_2, j_3, j_4, j_5, j_6, j_7, j_8, j_9, j_10, j_11, j_12, j_13, j_14, j_15, j_16, j_17, j_18, j_19, j_20, j_21, j_22, j_23, j_24, j_25, j_26, j_27, j_28, j_29, j_30, j_31, j_32, j_33, j_34, j_35, j_36, j_37, j_38, j_39, j_40, j_41, j_42, j_43, j_44, j_45, j_46, j_47, j_48, j_49, j_50, j_51, j_52, j_57, j_59, j_63, j_74, j_75, j_93, j_97, j_99, j_100, j_122, j_200, j_255, j_300, j_465, j_496, j_900, j_999, j_1000, j_65536, j_65537, j_99999, j_252645135, j_858993459, j_1431655765, k_0, k_1, k_27, k_32, k_74, k_75, k_100, k_1000, k_65537, cl_r C, ↓cl_r_b C, cl_q C, ↓cl_q_b C, ci_0 C, ↓ci_0_b C, ci_1 C, ↓ci_1_b C, ci_2 C, ↓ci_2_b C, ci_3 C, ↓ci_3_b C, ci_4 C, ↓ci_4_b C, ci_5 C, ↓ci_5_b C, ci_6 C, ↓ci_6_b C, ci_7 C, ↓ci_7_b C, cr_9 C, ↓cr_9_b C, cr_10 C, ↓cr_10_b C, cr_11 C, ↓cr_11_b C, cr_13 C, ↓cr_13_b C, cr_14 C, ↓cr_14_b C, cr_15 C, ↓cr_15_b C, cr_16 C, ↓cr_16_b C, cr_17 C, ↓cr_17_b C, cr_18 C, ↓cr_18_b C, cr_19 C, ↓cr_19_b C, cr_20 C, ↓cr_20_b C, cr_21 C, ↓cr_21_b C, cr_22 C, ↓cr_22_b C, cr_23 C, ↓cr_23_b C, cr_24 C, ↓cr_24_b C, cr_25 C, ↓cr_25_b C, cr_26 C, ↓cr_26_b C, ca_9 HL C, ↓ca_9_b HL C, ca_10 HL C, ↓ca_10_b HL C, ca_11 HL C, ↓ca_11_b HL C, ca_13 HL C, ↓ca_13_b HL C, ca_14 HL C, ↓ca_14_b HL C, ca_15 HL C, ↓ca_15_b HL C, ca_16 HL C, ↓ca_16_b HL C, ca_17 HL C, ↓ca_17_b HL C, ca_18 HL C, ↓ca_18_b HL C, ca_19 HL C, ↓ca_19_b HL C, ca_20 HL C, ↓ca_20_b HL C, ca_21 HL C, ↓ca_21_b HL C, ca_22 HL C, ↓ca_22_b HL C, ca_23 HL C, ↓ca_23_b HL C, ca_24 HL C, ↓ca_24_b HL C, ca_25 HL C, ↓ca_25_b HL C, ca_26 HL C, ↓ca_26_b HL C, m_i C.1, ↓m_i_b C.1, m_p C.1, ↓m_p_b C.1, m_l C.1, ↓m_l_b C.1, m_pl C.1, ↓m_pl_b C.1, mr_15 C.1, ↓mr_15_b C.1, mr_16 C.1, ↓mr_16_b C.1, mr_17 C.1, ↓mr_17_b C.1, mr_18 C.1, ↓mr_18_b C.1, mr_21 C.1, ↓mr_21_b C.1, mr_22 C.1, ↓mr_22_b C.1, mr_23 C.1, ↓mr_23_b C.1, mr_24 C.1, ↓mr_24_b C.1, mr_25 C.1, ↓mr_25_b C.1, mr_30 C.1, ↓mr_30_b C.1, mr_31 C.1, ↓mr_31_b C.1, e]
theorem opb {L : Lk} (HL : LW L) {n : Nat} (n1 : 1 ≤ n) (n4 : n ≤ 4) (H1 : 1 ≤ L 1 0) : 2 ≤ 1 + n * hn L ∧ 1 + n * hn L ≤ 21 := by
  have b1 := LW_h HL
  have hne := hn_e HL
  have m1 : 1 * 1 ≤ n * hn L := Nat.mul_le_mul n1 (by omega)
  have m2 : n * hn L ≤ 4 * 5 := Nat.mul_le_mul n4 (by omega)
  omega
theorem pwb {A D : Nat} (hA : A ≤ 21) (h1 : 1 ≤ A) (hD : D ≤ 3) : 1 ≤ A ^ D ∧ A ^ D ≤ 9261 := by
  have p1 : A ^ D ≤ 21 ^ D := Nat.pow_le_pow_left hA D
  have p2 : 21 ^ D ≤ 21 ^ 3 := Nat.pow_le_pow_right (by decide) hD
  have p3 : 21 ^ 3 = 9261 := by decide
  have p4 : 0 < A ^ D := Nat.pow_pos h1
  omega
theorem D_plansAll {L : Lk} {b : Nat} {h : Hp} {n : Nat} (HL : LW L) (C : RC L b h) : F_md_plansAll 88 (J n) h = some (J (((1 + n * hn L) ^ (L 4 0).toNat : Nat) : Int)) := by
  have b4 := LW_d HL
  have eo := D_options HL C (n := n)
  obtain ⟨A, hA⟩ : ∃ A, A = 1 + n * hn L := ⟨_, rfl⟩
  rw [← hA] at eo ⊢
  have el := lq_for (b := B_md_plansAll_4 88 (J n) h) (r := J ((A ^ (L 4 0).toNat : Nat) : Int)) (f := FU) (s := (J 1, J 0)) (fun i => (J ((A ^ i : Nat) : Int), J i)) (L 4 0).toNat (by unfold FU; omega) (by rw [Nat.pow_zero]; rfl) (fun i hi => by
    have em : ((A ^ i : Nat) : Int) * (A : Int) = ((A ^ (i + 1) : Nat) : Int) := by rw [Nat.pow_succ, Int.natCast_mul]
    unfold B_md_plansAll_4
    try simp only [j_0, j_1, j_2, j_3, j_4, j_5, j_6, j_7, j_8, j_9, j_10, j_11, j_12, j_13, j_14, j_15, j_16, j_17, j_18, j_19, j_20, j_21, j_22, j_23, j_24, j_25, j_26, j_27, j_28, j_29, j_30, j_31, j_32, j_33, j_34, j_35, j_36, j_37, j_38, j_39, j_40, j_41, j_42, j_43, j_44, j_45, j_46, j_47, j_48, j_49, j_50, j_51, j_52, j_57, j_59, j_63, j_74, j_75, j_93, j_97, j_99, j_100, j_122, j_200, j_255, j_300, j_465, j_496, j_900, j_999, j_1000, j_65536, j_65537, j_99999, j_252645135, j_858993459, j_1431655765, k_0, k_1, k_27, k_32, k_74, k_75, k_100, k_1000, k_65537]
    simp (disch := first | with_reducible assumption | omega | trivial) only [↓bn_s1, ↓bd_s1, ↓ei_l1, ↓ei_r1, ↓bn_if, ↓ilt_1, ↓ilt_0, ↓ieq_1, ↓ieq_0, bn_s1, bd_s1, ei_l1, ei_r1, J_add, J_sub, J_mul, J_neg, J_lt, J_le, J_eq, dv_J, rm_J, if_pos, if_neg, ↓reduceIte, bitJ, shlJ, orJ, j_0, j_1, j_2, j_3, j_4, j_5, j_6, j_7, j_8, j_9, j_10, j_11, j_12, j_13, j_14, j_15, j_16, j_17, j_18, j_19, j_20, j_21, j_22, j_23, j_24, j_25, j_26, j_27, j_28, j_29, j_30, j_31, j_32, j_33, j_34, j_35, j_36, j_37, j_38, j_39, j_40, j_41, j_42, j_43, j_44, j_45, j_46, j_47, j_48, j_49, j_50, j_51, j_52, j_57, j_59, j_63, j_74, j_75, j_93, j_97, j_99, j_100, j_122, j_200, j_255, j_300, j_465, j_496, j_900, j_999, j_1000, j_65536, j_65537, j_99999, j_252645135, j_858993459, j_1431655765, k_0, k_1, k_27, k_32, k_74, k_75, k_100, k_1000, k_65537, cl_r C, ↓cl_r_b C, cl_q C, ↓cl_q_b C, ci_0 C, ↓ci_0_b C, ci_1 C, ↓ci_1_b C, ci_2 C, ↓ci_2_b C, ci_3 C, ↓ci_3_b C, ci_4 C, ↓ci_4_b C, ci_5 C, ↓ci_5_b C, ci_6 C, ↓ci_6_b C, ci_7 C, ↓ci_7_b C, cr_9 C, ↓cr_9_b C, cr_10 C, ↓cr_10_b C, cr_11 C, ↓cr_11_b C, cr_13 C, ↓cr_13_b C, cr_14 C, ↓cr_14_b C, cr_15 C, ↓cr_15_b C, cr_16 C, ↓cr_16_b C, cr_17 C, ↓cr_17_b C, cr_18 C, ↓cr_18_b C, cr_19 C, ↓cr_19_b C, cr_20 C, ↓cr_20_b C, cr_21 C, ↓cr_21_b C, cr_22 C, ↓cr_22_b C, cr_23 C, ↓cr_23_b C, cr_24 C, ↓cr_24_b C, cr_25 C, ↓cr_25_b C, cr_26 C, ↓cr_26_b C, ca_9 HL C, ↓ca_9_b HL C, ca_10 HL C, ↓ca_10_b HL C, ca_11 HL C, ↓ca_11_b HL C, ca_13 HL C, ↓ca_13_b HL C, ca_14 HL C, ↓ca_14_b HL C, ca_15 HL C, ↓ca_15_b HL C, ca_16 HL C, ↓ca_16_b HL C, ca_17 HL C, ↓ca_17_b HL C, ca_18 HL C, ↓ca_18_b HL C, ca_19 HL C, ↓ca_19_b HL C, ca_20 HL C, ↓ca_20_b HL C, ca_21 HL C, ↓ca_21_b HL C, ca_22 HL C, ↓ca_22_b HL C, ca_23 HL C, ↓ca_23_b HL C, ca_24 HL C, ↓ca_24_b HL C, ca_25 HL C, ↓ca_25_b HL C, ca_26 HL C, ↓ca_26_b HL C, m_i C.1, ↓m_i_b C.1, m_p C.1, ↓m_p_b C.1, m_l C.1, ↓m_l_b C.1, m_pl C.1, ↓m_pl_b C.1, mr_15 C.1, ↓mr_15_b C.1, mr_16 C.1, ↓mr_16_b C.1, mr_17 C.1, ↓mr_17_b C.1, mr_18 C.1, ↓mr_18_b C.1, mr_21 C.1, ↓mr_21_b C.1, mr_22 C.1, ↓mr_22_b C.1, mr_23 C.1, ↓mr_23_b C.1, mr_24 C.1, ↓mr_24_b C.1, mr_25 C.1, ↓mr_25_b C.1, mr_30 C.1, ↓mr_30_b C.1, mr_31 C.1, ↓mr_31_b C.1, ↓bn_e (eo), eo, em]
    rfl) (by
    unfold B_md_plansAll_4
    try simp only [j_0, j_1, j_2, j_3, j_4, j_5, j_6, j_7, j_8, j_9, j_10, j_11, j_12, j_13, j_14, j_15, j_16, j_17, j_18, j_19, j_20, j_21, j_22, j_23, j_24, j_25, j_26, j_27, j_28, j_29, j_30, j_31, j_32, j_33, j_34, j_35, j_36, j_37, j_38, j_39, j_40, j_41, j_42, j_43, j_44, j_45, j_46, j_47, j_48, j_49, j_50, j_51, j_52, j_57, j_59, j_63, j_74, j_75, j_93, j_97, j_99, j_100, j_122, j_200, j_255, j_300, j_465, j_496, j_900, j_999, j_1000, j_65536, j_65537, j_99999, j_252645135, j_858993459, j_1431655765, k_0, k_1, k_27, k_32, k_74, k_75, k_100, k_1000, k_65537]
    simp (disch := first | with_reducible assumption | omega | trivial) only [↓bn_s1, ↓bd_s1, ↓ei_l1, ↓ei_r1, ↓bn_if, ↓ilt_1, ↓ilt_0, ↓ieq_1, ↓ieq_0, bn_s1, bd_s1, ei_l1, ei_r1, J_add, J_sub, J_mul, J_neg, J_lt, J_le, J_eq, dv_J, rm_J, if_pos, if_neg, ↓reduceIte, bitJ, shlJ, orJ, j_0, j_1, j_2, j_3, j_4, j_5, j_6, j_7, j_8, j_9, j_10, j_11, j_12, j_13, j_14, j_15, j_16, j_17, j_18, j_19, j_20, j_21, j_22, j_23, j_24, j_25, j_26, j_27, j_28, j_29, j_30, j_31, j_32, j_33, j_34, j_35, j_36, j_37, j_38, j_39, j_40, j_41, j_42, j_43, j_44, j_45, j_46, j_47, j_48, j_49, j_50, j_51, j_52, j_57, j_59, j_63, j_74, j_75, j_93, j_97, j_99, j_100, j_122, j_200, j_255, j_300, j_465, j_496, j_900, j_999, j_1000, j_65536, j_65537, j_99999, j_252645135, j_858993459, j_1431655765, k_0, k_1, k_27, k_32, k_74, k_75, k_100, k_1000, k_65537, cl_r C, ↓cl_r_b C, cl_q C, ↓cl_q_b C, ci_0 C, ↓ci_0_b C, ci_1 C, ↓ci_1_b C, ci_2 C, ↓ci_2_b C, ci_3 C, ↓ci_3_b C, ci_4 C, ↓ci_4_b C, ci_5 C, ↓ci_5_b C, ci_6 C, ↓ci_6_b C, ci_7 C, ↓ci_7_b C, cr_9 C, ↓cr_9_b C, cr_10 C, ↓cr_10_b C, cr_11 C, ↓cr_11_b C, cr_13 C, ↓cr_13_b C, cr_14 C, ↓cr_14_b C, cr_15 C, ↓cr_15_b C, cr_16 C, ↓cr_16_b C, cr_17 C, ↓cr_17_b C, cr_18 C, ↓cr_18_b C, cr_19 C, ↓cr_19_b C, cr_20 C, ↓cr_20_b C, cr_21 C, ↓cr_21_b C, cr_22 C, ↓cr_22_b C, cr_23 C, ↓cr_23_b C, cr_24 C, ↓cr_24_b C, cr_25 C, ↓cr_25_b C, cr_26 C, ↓cr_26_b C, ca_9 HL C, ↓ca_9_b HL C, ca_10 HL C, ↓ca_10_b HL C, ca_11 HL C, ↓ca_11_b HL C, ca_13 HL C, ↓ca_13_b HL C, ca_14 HL C, ↓ca_14_b HL C, ca_15 HL C, ↓ca_15_b HL C, ca_16 HL C, ↓ca_16_b HL C, ca_17 HL C, ↓ca_17_b HL C, ca_18 HL C, ↓ca_18_b HL C, ca_19 HL C, ↓ca_19_b HL C, ca_20 HL C, ↓ca_20_b HL C, ca_21 HL C, ↓ca_21_b HL C, ca_22 HL C, ↓ca_22_b HL C, ca_23 HL C, ↓ca_23_b HL C, ca_24 HL C, ↓ca_24_b HL C, ca_25 HL C, ↓ca_25_b HL C, ca_26 HL C, ↓ca_26_b HL C, m_i C.1, ↓m_i_b C.1, m_p C.1, ↓m_p_b C.1, m_l C.1, ↓m_l_b C.1, m_pl C.1, ↓m_pl_b C.1, mr_15 C.1, ↓mr_15_b C.1, mr_16 C.1, ↓mr_16_b C.1, mr_17 C.1, ↓mr_17_b C.1, mr_18 C.1, ↓mr_18_b C.1, mr_21 C.1, ↓mr_21_b C.1, mr_22 C.1, ↓mr_22_b C.1, mr_23 C.1, ↓mr_23_b C.1, mr_24 C.1, ↓mr_24_b C.1, mr_25 C.1, ↓mr_25_b C.1, mr_30 C.1, ↓mr_30_b C.1, mr_31 C.1, ↓mr_31_b C.1])
  unfold F_md_plansAll
  rw [ck_e (MS_k C.1)]
  try simp only [j_0, j_1, j_2, j_3, j_4, j_5, j_6, j_7, j_8, j_9, j_10, j_11, j_12, j_13, j_14, j_15, j_16, j_17, j_18, j_19, j_20, j_21, j_22, j_23, j_24, j_25, j_26, j_27, j_28, j_29, j_30, j_31, j_32, j_33, j_34, j_35, j_36, j_37, j_38, j_39, j_40, j_41, j_42, j_43, j_44, j_45, j_46, j_47, j_48, j_49, j_50, j_51, j_52, j_57, j_59, j_63, j_74, j_75, j_93, j_97, j_99, j_100, j_122, j_200, j_255, j_300, j_465, j_496, j_900, j_999, j_1000, j_65536, j_65537, j_99999, j_252645135, j_858993459, j_1431655765, k_0, k_1, k_27, k_32, k_74, k_75, k_100, k_1000, k_65537]
  simp (disch := first | with_reducible assumption | omega | trivial) only [↓bn_s1, ↓bd_s1, ↓ei_l1, ↓ei_r1, ↓bn_if, ↓ilt_1, ↓ilt_0, ↓ieq_1, ↓ieq_0, bn_s1, bd_s1, ei_l1, ei_r1, J_add, J_sub, J_mul, J_neg, J_lt, J_le, J_eq, dv_J, rm_J, if_pos, if_neg, ↓reduceIte, bitJ, shlJ, orJ, j_0, j_1, j_2, j_3, j_4, j_5, j_6, j_7, j_8, j_9, j_10, j_11, j_12, j_13, j_14, j_15, j_16, j_17, j_18, j_19, j_20, j_21, j_22, j_23, j_24, j_25, j_26, j_27, j_28, j_29, j_30, j_31, j_32, j_33, j_34, j_35, j_36, j_37, j_38, j_39, j_40, j_41, j_42, j_43, j_44, j_45, j_46, j_47, j_48, j_49, j_50, j_51, j_52, j_57, j_59, j_63, j_74, j_75, j_93, j_97, j_99, j_100, j_122, j_200, j_255, j_300, j_465, j_496, j_900, j_999, j_1000, j_65536, j_65537, j_99999, j_252645135, j_858993459, j_1431655765, k_0, k_1, k_27, k_32, k_74, k_75, k_100, k_1000, k_65537, ↓bn_e (el), el]
/-- the code's rest -/
def lfp (A p : Nat) : Nat → Nat
  | 0 => p
  | i + 1 => lfp A p i / A
theorem lfp_le (A p : Nat) : ∀ i, lfp A p i ≤ p := by
  intro i
  induction i with
  | zero => exact Nat.le_refl _
  | succ i ih => exact Nat.le_trans (Nat.div_le_self _ _) ih
theorem qcd_d {A : Nat} : ∀ (D p d : Nat), d < D → qcd A D p d = lfp A p (D - 1 - d) % A := by
  have key : ∀ (k p : Nat), lfp A (p / A) k = lfp A p (k + 1) := by
    intro k
    induction k with
    | zero => intro p; rfl
    | succ k ih => intro p; show lfp A (p / A) k / A = lfp A p (k + 1) / A; rw [ih]
  intro D
  induction D with
  | zero => intro p d h; omega
  | succ D ih =>
    intro p d hd
    show upq (qcd A D (p / A)) D (p % A) d = _
    unfold upq
    by_cases e : d = D
    · rw [if_pos e, e, show D + 1 - 1 - D = 0 by omega]; rfl
    · rw [if_neg e, ih (p / A) d (by omega), key, show D - 1 - d + 1 = D + 1 - 1 - d by omega]
/-- costs, from the last drinker on -/
def ucr (L : Lk) (A D p : Nat) : Nat → Int
  | 0 => 0
  | i + 1 => ucr L A D p i + cst L (D - 1 - i) (lfp A p i % A)
theorem ucr_e {L : Lk} {A : Nat} : ∀ (D p : Nat), ucr L A D p D = ucd L A D p := by
  have key : ∀ (k p : Nat), lfp A (p / A) k = lfp A p (k + 1) := by
    intro k
    induction k with
    | zero => intro p; rfl
    | succ k ih => intro p; show lfp A (p / A) k / A = lfp A p (k + 1) / A; rw [ih]
  have sh : ∀ (D p i : Nat), ucr L A (D + 1) p (i + 1) = cst L D (p % A) + ucr L A D (p / A) i := by
    intro D p i
    induction i with
    | zero =>
      show 0 + cst L (D + 1 - 1 - 0) (lfp A p 0 % A) = _ + 0
      rw [show D + 1 - 1 - 0 = D by omega]
      show 0 + cst L D (p % A) = _
      omega
    | succ i ih =>
      show ucr L A (D + 1) p (i + 1) + cst L (D + 1 - 1 - (i + 1)) (lfp A p (i + 1) % A) = _ + (ucr L A D (p / A) i + cst L (D - 1 - i) (lfp A (p / A) i % A))
      rw [ih, key, show D + 1 - 1 - (i + 1) = D - 1 - i by omega]
      omega
  intro D
  induction D with
  | zero => intro p; rfl
  | succ D ih =>
    intro p
    rw [sh, ih]
    show _ = ucd L A D (p / A) + cst L D (p % A)
    omega
theorem ucr_b {L : Lk} (HL : LW L) {n D p : Nat} (n1 : 1 ≤ n) (n4 : n ≤ 4) (H1 : 1 ≤ L 1 0) (hD : (D : Int) ≤ L 4 0) : ∀ i, i ≤ D → 0 ≤ ucr L (1 + n * hn L) D p i ∧ ucr L (1 + n * hn L) D p i ≤ 36 * i := by
  have hne := hn_e HL
  intro i
  induction i with
  | zero => intro _; exact ⟨Int.le_refl _, by show (0 : Int) ≤ _; omega⟩
  | succ i ih =>
    intro hi
    have h := ih (by omega)
    have db := dyo_b (n := n) (Nat.mod_lt (lfp (1 + n * hn L) p i) (show 0 < 1 + n * hn L by omega)) (show 1 ≤ hn L by omega)
    have c := cst_36 HL (d := D - 1 - i) (o := lfp (1 + n * hn L) p i % (1 + n * hn L)) (by omega) (by omega)
    show 0 ≤ ucr L (1 + n * hn L) D p i + cst L _ _ ∧ ucr L (1 + n * hn L) D p i + cst L _ _ ≤ 36 * ((i + 1 : Nat) : Int)
    omega
/-- days and homes of a plan stand in rows 94 and 95 -/
def QH (L : Lk) (q : Pn) (lo : Nat) (h : Hp) : Prop := ∀ d : Nat, lo ≤ d → (d : Int) < L 4 0 → ia h 94 d = (dyo (hn L) (q d) : Nat) ∧ ia h 95 d = (if q d = 0 then (-2 : Int) else (hmo (hn L) (q d) : Int))
theorem D_laysPlan {L : Lk} {b : Nat} {h : Hp} {n p : Nat} (HL : LW L) (H1 : 1 ≤ L 1 0) (C : RC L b h) (n1 : 1 ≤ n) (n4 : n ≤ 4) (hp : p < 9261) : ∃ h', F_md_laysPlan 88 (J p) (J n) h = some (J (ucd L (1 + n * hn L) (L 4 0).toNat p), h') ∧ Fm 94 96 h h' ∧ QH L (qcd (1 + n * hn L) (L 4 0).toNat p) 0 h' := by
  have b1 := LW_h HL
  have b4 := LW_d HL
  have hne := hn_e HL
  have ob := opb HL n1 n4 H1
  obtain ⟨A, hA⟩ : ∃ A, A = 1 + n * hn L := ⟨_, rfl⟩
  obtain ⟨D, hD⟩ : ∃ D, D = (L 4 0).toNat := ⟨_, rfl⟩
  rw [← hA, ← hD]
  rw [← hA] at ob
  obtain ⟨y, h1, e1, y1, f1, x1⟩ := lp_for (b := B_md_laysPlan_16 88 (J n)) (f := FU) (s := (J p, J 0, J ((D : Int) - 1))) (h := h) (fun i s h' => s = (J (lfp A p i : Nat), J (ucr L A D p i), J ((D : Int) - 1 - i)) ∧ Fm 94 96 h h' ∧ QH L (qcd A D p) (D - i) h') (fun y h' => y = J (ucr L A D p D) ∧ Fm 94 96 h h' ∧ QH L (qcd A D p) (D - D) h') D (by unfold FU; omega) ⟨by rw [show (D : Int) - 1 - ((0 : Nat) : Int) = (D : Int) - 1 by omega]; rfl, fm_rf _ _ _, fun d d0 d1 => by omega⟩ (fun i s h1 hi hI => by
      obtain ⟨rfl, f1, x1⟩ := hI
      have C1 := RC_fm f1 (by omega) C
      have eo := D_options HL C1 (n := n)
      rw [← hA] at eo
      obtain ⟨d, hd⟩ : ∃ d, d = D - 1 - i := ⟨_, rfl⟩
      have ed : (D : Int) - 1 - i = (d : Int) := by omega
      have dl : (d : Int) < L 4 0 := by omega
      have ll := lfp_le A p i
      have rm := rmN (a := lfp A p i) (b := A) (by omega) (by omega) (by omega)
      have dvv := dvN (a := lfp A p i) (b := A) (by omega) (by omega) (by omega)
      have eq := qcd_d (A := A) D p d (by omega)
      rw [show D - 1 - d = i by omega] at eq
      obtain ⟨o, ho⟩ : ∃ o, o = lfp A p i % A := ⟨_, rfl⟩
      rw [← ho] at rm eq
      have ol : o < A := by rw [ho]; exact Nat.mod_lt _ (by omega)
      have db := dyo_b (n := n) (H := hn L) (o := o) (by omega) (by omega)
      have ub := ucr_b HL (p := p) n1 n4 H1 (show (D : Int) ≤ L 4 0 by omega) i (by omega)
      rw [← hA] at ub
      have eu : ucr L A D p (i + 1) = ucr L A D p i + cst L d o := by rw [ho, hd]; rfl
      have n94 : (iA h1 94).length = 3 := MS_n21 C1.1
      obtain ⟨h2, hh2⟩ : ∃ h2, h2 = wA h1 94 d (dyo (hn L) o : Nat) := ⟨_, rfl⟩
      have f2 : Fm 94 96 h1 h2 := by rw [hh2]; exact fm_wA (by omega) (by omega)
      have C2 := RC_fm f2 (by omega) C1
      have n95 : (iA h2 95).length = 3 := MS_n22 C2.1
      have hm : hmo (hn L) o < hn L := Nat.mod_lt _ (by omega)
      obtain ⟨w, hw⟩ : ∃ w : Int, w = (if o = 0 then (-2 : Int) else (hmo (hn L) o : Int)) := ⟨_, rfl⟩
      have wb : -2 ≤ w ∧ w < 10 := by
        rw [hw]
        by_cases o0 : o = 0
        · rw [if_pos o0]; omega
        · rw [if_neg o0]; omega
      obtain ⟨h3, hh3⟩ : ∃ h3, h3 = wA h2 95 d w := ⟨_, rfl⟩
      have f3 : Fm 94 96 h2 h3 := by rw [hh3]; exact fm_wA (by omega) (by omega)
      have C3 := RC_fm f3 (by omega) C2
      have v3 : ia h3 94 d = (dyo (hn L) o : Nat) := by
        rw [hh3, ia_wA (by omega), hh2]
        exact ia_same (by omega) (by omega) (by omega) (by omega)
      have ec : ((dyo (hn L) o : Nat) : Int) * L 18 d = cst L d o := rfl
      have e8 : (D : Int) - 1 - ((i + 1 : Nat) : Int) = (d : Int) + -1 := by omega
      refine ⟨(J (lfp A p (i + 1) : Nat), J (ucr L A D p (i + 1)), J ((D : Int) - 1 - (i + 1 : Nat))), h3, ?_, rfl, fm_tr f1 (fm_tr f2 f3), fun e e0 e1 => ?_⟩
      · unfold B_md_laysPlan_16
        rw [ed, jm1, jm2, e8, eu]
        by_cases o0 : o = 0
        · have dy0 : dyo (hn L) o = 0 := db.2.mpr o0
          rw [dy0] at hh2 v3 ec
          replace hh2 : h2 = wA h1 94 d (0 : Int) := hh2
          replace v3 : ia h3 94 d = (0 : Int) := v3
          replace ec : (0 : Int) * L 18 d = cst L d o := ec
          rw [if_pos o0] at hw
          rw [hw] at hh3
          rw [o0] at rm
          try simp only [j_0, j_1, j_2, j_3, j_4, j_5, j_6, j_7, j_8, j_9, j_10, j_11, j_12, j_13, j_14, j_15, j_16, j_17, j_18, j_19, j_20, j_21, j_22, j_23, j_24, j_25, j_26, j_27, j_28, j_29, j_30, j_31, j_32, j_33, j_34, j_35, j_36, j_37, j_38, j_39, j_40, j_41, j_42, j_43, j_44, j_45, j_46, j_47, j_48, j_49, j_50, j_51, j_52, j_57, j_59, j_63, j_74, j_75, j_93, j_97, j_99, j_100, j_122, j_200, j_255, j_300, j_465, j_496, j_900, j_999, j_1000, j_65536, j_65537, j_99999, j_252645135, j_858993459, j_1431655765, k_0, k_1, k_27, k_32, k_74, k_75, k_100, k_1000, k_65537]
          simp (disch := first | with_reducible assumption | omega | trivial) only [↓bn_s1, ↓bd_s1, ↓ei_l1, ↓ei_r1, ↓bn_if, ↓ilt_1, ↓ilt_0, ↓ieq_1, ↓ieq_0, bn_s1, bd_s1, ei_l1, ei_r1, J_add, J_sub, J_mul, J_neg, J_lt, J_le, J_eq, dv_J, if_pos, if_neg, ↓reduceIte, bitJ, shlJ, orJ, j_0, j_1, j_2, j_3, j_4, j_5, j_6, j_7, j_8, j_9, j_10, j_11, j_12, j_13, j_14, j_15, j_16, j_17, j_18, j_19, j_20, j_21, j_22, j_23, j_24, j_25, j_26, j_27, j_28, j_29, j_30, j_31, j_32, j_33, j_34, j_35, j_36, j_37, j_38, j_39, j_40, j_41, j_42, j_43, j_44, j_45, j_46, j_47, j_48, j_49, j_50, j_51, j_52, j_57, j_59, j_63, j_74, j_75, j_93, j_97, j_99, j_100, j_122, j_200, j_255, j_300, j_465, j_496, j_900, j_999, j_1000, j_65536, j_65537, j_99999, j_252645135, j_858993459, j_1431655765, k_0, k_1, k_27, k_32, k_74, k_75, k_100, k_1000, k_65537, ↓bn_e (eo), eo, ↓bn_e (rm), rm, ↓bn_e (dvv), dvv, cl_r C1, ↓cl_r_b C1, cl_q C1, ↓cl_q_b C1, ci_0 C1, ↓ci_0_b C1, ci_1 C1, ↓ci_1_b C1, ci_2 C1, ↓ci_2_b C1, ci_3 C1, ↓ci_3_b C1, ci_4 C1, ↓ci_4_b C1, ci_5 C1, ↓ci_5_b C1, ci_6 C1, ↓ci_6_b C1, ci_7 C1, ↓ci_7_b C1, cr_9 C1, ↓cr_9_b C1, cr_10 C1, ↓cr_10_b C1, cr_11 C1, ↓cr_11_b C1, cr_13 C1, ↓cr_13_b C1, cr_14 C1, ↓cr_14_b C1, cr_15 C1, ↓cr_15_b C1, cr_16 C1, ↓cr_16_b C1, cr_17 C1, ↓cr_17_b C1, cr_18 C1, ↓cr_18_b C1, cr_19 C1, ↓cr_19_b C1, cr_20 C1, ↓cr_20_b C1, cr_21 C1, ↓cr_21_b C1, cr_22 C1, ↓cr_22_b C1, cr_23 C1, ↓cr_23_b C1, cr_24 C1, ↓cr_24_b C1, cr_25 C1, ↓cr_25_b C1, cr_26 C1, ↓cr_26_b C1, ca_9 HL C1, ↓ca_9_b HL C1, ca_10 HL C1, ↓ca_10_b HL C1, ca_11 HL C1, ↓ca_11_b HL C1, ca_13 HL C1, ↓ca_13_b HL C1, ca_14 HL C1, ↓ca_14_b HL C1, ca_15 HL C1, ↓ca_15_b HL C1, ca_16 HL C1, ↓ca_16_b HL C1, ca_17 HL C1, ↓ca_17_b HL C1, ca_18 HL C1, ↓ca_18_b HL C1, ca_19 HL C1, ↓ca_19_b HL C1, ca_20 HL C1, ↓ca_20_b HL C1, ca_21 HL C1, ↓ca_21_b HL C1, ca_22 HL C1, ↓ca_22_b HL C1, ca_23 HL C1, ↓ca_23_b HL C1, ca_24 HL C1, ↓ca_24_b HL C1, ca_25 HL C1, ↓ca_25_b HL C1, ca_26 HL C1, ↓ca_26_b HL C1, m_i C1.1, ↓m_i_b C1.1, m_p C1.1, ↓m_p_b C1.1, m_l C1.1, ↓m_l_b C1.1, m_pl C1.1, ↓m_pl_b C1.1, mr_15 C1.1, ↓mr_15_b C1.1, mr_16 C1.1, ↓mr_16_b C1.1, mr_17 C1.1, ↓mr_17_b C1.1, mr_18 C1.1, ↓mr_18_b C1.1, mr_21 C1.1, ↓mr_21_b C1.1, mr_22 C1.1, ↓mr_22_b C1.1, mr_23 C1.1, ↓mr_23_b C1.1, mr_24 C1.1, ↓mr_24_b C1.1, mr_25 C1.1, ↓mr_25_b C1.1, mr_30 C1.1, ↓mr_30_b C1.1, mr_31 C1.1, ↓mr_31_b C1.1, m90a C1.1, ↓m90a_b C1.1, m90s C1.1, ↓m90s_b C1.1, m91a C1.1, ↓m91a_b C1.1, m91s C1.1, ↓m91s_b C1.1, m92a C1.1, ↓m92a_b C1.1, m92s C1.1, ↓m92s_b C1.1, m93a C1.1, ↓m93a_b C1.1, m93s C1.1, ↓m93s_b C1.1, m94a C1.1, ↓m94a_b C1.1, m94s C1.1, ↓m94s_b C1.1, m95a C1.1, ↓m95a_b C1.1, m95s C1.1, ↓m95s_b C1.1, m96a C1.1, ↓m96a_b C1.1, m96s C1.1, ↓m96s_b C1.1, m97a C1.1, ↓m97a_b C1.1, m97s C1.1, ↓m97s_b C1.1, m98a C1.1, ↓m98a_b C1.1, m98s C1.1, ↓m98s_b C1.1, m99a C1.1, ↓m99a_b C1.1, m99s C1.1, ↓m99s_b C1.1, m100a C1.1, ↓m100a_b C1.1, m100s C1.1, ↓m100s_b C1.1, ← hh2, cl_r C2, ↓cl_r_b C2, cl_q C2, ↓cl_q_b C2, ci_0 C2, ↓ci_0_b C2, ci_1 C2, ↓ci_1_b C2, ci_2 C2, ↓ci_2_b C2, ci_3 C2, ↓ci_3_b C2, ci_4 C2, ↓ci_4_b C2, ci_5 C2, ↓ci_5_b C2, ci_6 C2, ↓ci_6_b C2, ci_7 C2, ↓ci_7_b C2, cr_9 C2, ↓cr_9_b C2, cr_10 C2, ↓cr_10_b C2, cr_11 C2, ↓cr_11_b C2, cr_13 C2, ↓cr_13_b C2, cr_14 C2, ↓cr_14_b C2, cr_15 C2, ↓cr_15_b C2, cr_16 C2, ↓cr_16_b C2, cr_17 C2, ↓cr_17_b C2, cr_18 C2, ↓cr_18_b C2, cr_19 C2, ↓cr_19_b C2, cr_20 C2, ↓cr_20_b C2, cr_21 C2, ↓cr_21_b C2, cr_22 C2, ↓cr_22_b C2, cr_23 C2, ↓cr_23_b C2, cr_24 C2, ↓cr_24_b C2, cr_25 C2, ↓cr_25_b C2, cr_26 C2, ↓cr_26_b C2, ca_9 HL C2, ↓ca_9_b HL C2, ca_10 HL C2, ↓ca_10_b HL C2, ca_11 HL C2, ↓ca_11_b HL C2, ca_13 HL C2, ↓ca_13_b HL C2, ca_14 HL C2, ↓ca_14_b HL C2, ca_15 HL C2, ↓ca_15_b HL C2, ca_16 HL C2, ↓ca_16_b HL C2, ca_17 HL C2, ↓ca_17_b HL C2, ca_18 HL C2, ↓ca_18_b HL C2, ca_19 HL C2, ↓ca_19_b HL C2, ca_20 HL C2, ↓ca_20_b HL C2, ca_21 HL C2, ↓ca_21_b HL C2, ca_22 HL C2, ↓ca_22_b HL C2, ca_23 HL C2, ↓ca_23_b HL C2, ca_24 HL C2, ↓ca_24_b HL C2, ca_25 HL C2, ↓ca_25_b HL C2, ca_26 HL C2, ↓ca_26_b HL C2, m_i C2.1, ↓m_i_b C2.1, m_p C2.1, ↓m_p_b C2.1, m_l C2.1, ↓m_l_b C2.1, m_pl C2.1, ↓m_pl_b C2.1, mr_15 C2.1, ↓mr_15_b C2.1, mr_16 C2.1, ↓mr_16_b C2.1, mr_17 C2.1, ↓mr_17_b C2.1, mr_18 C2.1, ↓mr_18_b C2.1, mr_21 C2.1, ↓mr_21_b C2.1, mr_22 C2.1, ↓mr_22_b C2.1, mr_23 C2.1, ↓mr_23_b C2.1, mr_24 C2.1, ↓mr_24_b C2.1, mr_25 C2.1, ↓mr_25_b C2.1, mr_30 C2.1, ↓mr_30_b C2.1, mr_31 C2.1, ↓mr_31_b C2.1, m90a C2.1, ↓m90a_b C2.1, m90s C2.1, ↓m90s_b C2.1, m91a C2.1, ↓m91a_b C2.1, m91s C2.1, ↓m91s_b C2.1, m92a C2.1, ↓m92a_b C2.1, m92s C2.1, ↓m92s_b C2.1, m93a C2.1, ↓m93a_b C2.1, m93s C2.1, ↓m93s_b C2.1, m94a C2.1, ↓m94a_b C2.1, m94s C2.1, ↓m94s_b C2.1, m95a C2.1, ↓m95a_b C2.1, m95s C2.1, ↓m95s_b C2.1, m96a C2.1, ↓m96a_b C2.1, m96s C2.1, ↓m96s_b C2.1, m97a C2.1, ↓m97a_b C2.1, m97s C2.1, ↓m97s_b C2.1, m98a C2.1, ↓m98a_b C2.1, m98s C2.1, ↓m98s_b C2.1, m99a C2.1, ↓m99a_b C2.1, m99s C2.1, ↓m99s_b C2.1, m100a C2.1, ↓m100a_b C2.1, m100s C2.1, ↓m100s_b C2.1, ← hh3, cl_r C3, ↓cl_r_b C3, cl_q C3, ↓cl_q_b C3, ci_0 C3, ↓ci_0_b C3, ci_1 C3, ↓ci_1_b C3, ci_2 C3, ↓ci_2_b C3, ci_3 C3, ↓ci_3_b C3, ci_4 C3, ↓ci_4_b C3, ci_5 C3, ↓ci_5_b C3, ci_6 C3, ↓ci_6_b C3, ci_7 C3, ↓ci_7_b C3, cr_9 C3, ↓cr_9_b C3, cr_10 C3, ↓cr_10_b C3, cr_11 C3, ↓cr_11_b C3, cr_13 C3, ↓cr_13_b C3, cr_14 C3, ↓cr_14_b C3, cr_15 C3, ↓cr_15_b C3, cr_16 C3, ↓cr_16_b C3, cr_17 C3, ↓cr_17_b C3, cr_18 C3, ↓cr_18_b C3, cr_19 C3, ↓cr_19_b C3, cr_20 C3, ↓cr_20_b C3, cr_21 C3, ↓cr_21_b C3, cr_22 C3, ↓cr_22_b C3, cr_23 C3, ↓cr_23_b C3, cr_24 C3, ↓cr_24_b C3, cr_25 C3, ↓cr_25_b C3, cr_26 C3, ↓cr_26_b C3, ca_9 HL C3, ↓ca_9_b HL C3, ca_10 HL C3, ↓ca_10_b HL C3, ca_11 HL C3, ↓ca_11_b HL C3, ca_13 HL C3, ↓ca_13_b HL C3, ca_14 HL C3, ↓ca_14_b HL C3, ca_15 HL C3, ↓ca_15_b HL C3, ca_16 HL C3, ↓ca_16_b HL C3, ca_17 HL C3, ↓ca_17_b HL C3, ca_18 HL C3, ↓ca_18_b HL C3, ca_19 HL C3, ↓ca_19_b HL C3, ca_20 HL C3, ↓ca_20_b HL C3, ca_21 HL C3, ↓ca_21_b HL C3, ca_22 HL C3, ↓ca_22_b HL C3, ca_23 HL C3, ↓ca_23_b HL C3, ca_24 HL C3, ↓ca_24_b HL C3, ca_25 HL C3, ↓ca_25_b HL C3, ca_26 HL C3, ↓ca_26_b HL C3, m_i C3.1, ↓m_i_b C3.1, m_p C3.1, ↓m_p_b C3.1, m_l C3.1, ↓m_l_b C3.1, m_pl C3.1, ↓m_pl_b C3.1, mr_15 C3.1, ↓mr_15_b C3.1, mr_16 C3.1, ↓mr_16_b C3.1, mr_17 C3.1, ↓mr_17_b C3.1, mr_18 C3.1, ↓mr_18_b C3.1, mr_21 C3.1, ↓mr_21_b C3.1, mr_22 C3.1, ↓mr_22_b C3.1, mr_23 C3.1, ↓mr_23_b C3.1, mr_24 C3.1, ↓mr_24_b C3.1, mr_25 C3.1, ↓mr_25_b C3.1, mr_30 C3.1, ↓mr_30_b C3.1, mr_31 C3.1, ↓mr_31_b C3.1, m90a C3.1, ↓m90a_b C3.1, m90s C3.1, ↓m90s_b C3.1, m91a C3.1, ↓m91a_b C3.1, m91s C3.1, ↓m91s_b C3.1, m92a C3.1, ↓m92a_b C3.1, m92s C3.1, ↓m92s_b C3.1, m93a C3.1, ↓m93a_b C3.1, m93s C3.1, ↓m93s_b C3.1, m94a C3.1, ↓m94a_b C3.1, m94s C3.1, ↓m94s_b C3.1, m95a C3.1, ↓m95a_b C3.1, m95s C3.1, ↓m95s_b C3.1, m96a C3.1, ↓m96a_b C3.1, m96s C3.1, ↓m96s_b C3.1, m97a C3.1, ↓m97a_b C3.1, m97s C3.1, ↓m97s_b C3.1, m98a C3.1, ↓m98a_b C3.1, m98s C3.1, ↓m98s_b C3.1, m99a C3.1, ↓m99a_b C3.1, m99s C3.1, ↓m99s_b C3.1, m100a C3.1, ↓m100a_b C3.1, m100s C3.1, ↓m100s_b C3.1, v3, ec]
          rfl
        · rw [if_neg o0] at hw
          rw [hw] at hh3
          have dy1 : 1 + (((o - 1) / hn L : Nat) : Int) = ((dyo (hn L) o : Nat) : Int) := by unfold dyo; rw [if_neg o0]; omega
          have dv2 := dvN (a := o - 1) (b := hn L) (by omega) (by omega) (by omega)
          have rm2 := rmN (a := o - 1) (b := hn L) (by omega) (by omega) (by omega)
          replace rm2 : rm32 (J ((o - 1 : Nat) : Int)) (J (hn L : Nat)) = some (J (hmo (hn L) o : Nat)) := rm2
          have eo1 : (o : Int) - 1 = ((o - 1 : Nat) : Int) := by omega
          rw [hne] at dv2 rm2
          try simp only [j_0, j_1, j_2, j_3, j_4, j_5, j_6, j_7, j_8, j_9, j_10, j_11, j_12, j_13, j_14, j_15, j_16, j_17, j_18, j_19, j_20, j_21, j_22, j_23, j_24, j_25, j_26, j_27, j_28, j_29, j_30, j_31, j_32, j_33, j_34, j_35, j_36, j_37, j_38, j_39, j_40, j_41, j_42, j_43, j_44, j_45, j_46, j_47, j_48, j_49, j_50, j_51, j_52, j_57, j_59, j_63, j_74, j_75, j_93, j_97, j_99, j_100, j_122, j_200, j_255, j_300, j_465, j_496, j_900, j_999, j_1000, j_65536, j_65537, j_99999, j_252645135, j_858993459, j_1431655765, k_0, k_1, k_27, k_32, k_74, k_75, k_100, k_1000, k_65537]
          simp (disch := first | with_reducible assumption | omega | trivial) only [↓bn_s1, ↓bd_s1, ↓ei_l1, ↓ei_r1, ↓bn_if, ↓ilt_1, ↓ilt_0, ↓ieq_1, ↓ieq_0, bn_s1, bd_s1, ei_l1, ei_r1, J_add, J_sub, J_mul, J_neg, J_lt, J_le, J_eq, dv_J, if_pos, if_neg, ↓reduceIte, bitJ, shlJ, orJ, j_0, j_1, j_2, j_3, j_4, j_5, j_6, j_7, j_8, j_9, j_10, j_11, j_12, j_13, j_14, j_15, j_16, j_17, j_18, j_19, j_20, j_21, j_22, j_23, j_24, j_25, j_26, j_27, j_28, j_29, j_30, j_31, j_32, j_33, j_34, j_35, j_36, j_37, j_38, j_39, j_40, j_41, j_42, j_43, j_44, j_45, j_46, j_47, j_48, j_49, j_50, j_51, j_52, j_57, j_59, j_63, j_74, j_75, j_93, j_97, j_99, j_100, j_122, j_200, j_255, j_300, j_465, j_496, j_900, j_999, j_1000, j_65536, j_65537, j_99999, j_252645135, j_858993459, j_1431655765, k_0, k_1, k_27, k_32, k_74, k_75, k_100, k_1000, k_65537, ↓bn_e (eo), eo, ↓bn_e (rm), rm, ↓bn_e (dvv), dvv, cl_r C1, ↓cl_r_b C1, cl_q C1, ↓cl_q_b C1, ci_0 C1, ↓ci_0_b C1, ci_1 C1, ↓ci_1_b C1, ci_2 C1, ↓ci_2_b C1, ci_3 C1, ↓ci_3_b C1, ci_4 C1, ↓ci_4_b C1, ci_5 C1, ↓ci_5_b C1, ci_6 C1, ↓ci_6_b C1, ci_7 C1, ↓ci_7_b C1, cr_9 C1, ↓cr_9_b C1, cr_10 C1, ↓cr_10_b C1, cr_11 C1, ↓cr_11_b C1, cr_13 C1, ↓cr_13_b C1, cr_14 C1, ↓cr_14_b C1, cr_15 C1, ↓cr_15_b C1, cr_16 C1, ↓cr_16_b C1, cr_17 C1, ↓cr_17_b C1, cr_18 C1, ↓cr_18_b C1, cr_19 C1, ↓cr_19_b C1, cr_20 C1, ↓cr_20_b C1, cr_21 C1, ↓cr_21_b C1, cr_22 C1, ↓cr_22_b C1, cr_23 C1, ↓cr_23_b C1, cr_24 C1, ↓cr_24_b C1, cr_25 C1, ↓cr_25_b C1, cr_26 C1, ↓cr_26_b C1, ca_9 HL C1, ↓ca_9_b HL C1, ca_10 HL C1, ↓ca_10_b HL C1, ca_11 HL C1, ↓ca_11_b HL C1, ca_13 HL C1, ↓ca_13_b HL C1, ca_14 HL C1, ↓ca_14_b HL C1, ca_15 HL C1, ↓ca_15_b HL C1, ca_16 HL C1, ↓ca_16_b HL C1, ca_17 HL C1, ↓ca_17_b HL C1, ca_18 HL C1, ↓ca_18_b HL C1, ca_19 HL C1, ↓ca_19_b HL C1, ca_20 HL C1, ↓ca_20_b HL C1, ca_21 HL C1, ↓ca_21_b HL C1, ca_22 HL C1, ↓ca_22_b HL C1, ca_23 HL C1, ↓ca_23_b HL C1, ca_24 HL C1, ↓ca_24_b HL C1, ca_25 HL C1, ↓ca_25_b HL C1, ca_26 HL C1, ↓ca_26_b HL C1, m_i C1.1, ↓m_i_b C1.1, m_p C1.1, ↓m_p_b C1.1, m_l C1.1, ↓m_l_b C1.1, m_pl C1.1, ↓m_pl_b C1.1, mr_15 C1.1, ↓mr_15_b C1.1, mr_16 C1.1, ↓mr_16_b C1.1, mr_17 C1.1, ↓mr_17_b C1.1, mr_18 C1.1, ↓mr_18_b C1.1, mr_21 C1.1, ↓mr_21_b C1.1, mr_22 C1.1, ↓mr_22_b C1.1, mr_23 C1.1, ↓mr_23_b C1.1, mr_24 C1.1, ↓mr_24_b C1.1, mr_25 C1.1, ↓mr_25_b C1.1, mr_30 C1.1, ↓mr_30_b C1.1, mr_31 C1.1, ↓mr_31_b C1.1, m90a C1.1, ↓m90a_b C1.1, m90s C1.1, ↓m90s_b C1.1, m91a C1.1, ↓m91a_b C1.1, m91s C1.1, ↓m91s_b C1.1, m92a C1.1, ↓m92a_b C1.1, m92s C1.1, ↓m92s_b C1.1, m93a C1.1, ↓m93a_b C1.1, m93s C1.1, ↓m93s_b C1.1, m94a C1.1, ↓m94a_b C1.1, m94s C1.1, ↓m94s_b C1.1, m95a C1.1, ↓m95a_b C1.1, m95s C1.1, ↓m95s_b C1.1, m96a C1.1, ↓m96a_b C1.1, m96s C1.1, ↓m96s_b C1.1, m97a C1.1, ↓m97a_b C1.1, m97s C1.1, ↓m97s_b C1.1, m98a C1.1, ↓m98a_b C1.1, m98s C1.1, ↓m98s_b C1.1, m99a C1.1, ↓m99a_b C1.1, m99s C1.1, ↓m99s_b C1.1, m100a C1.1, ↓m100a_b C1.1, m100s C1.1, ↓m100s_b C1.1, eo1, ↓bn_e (dv2), dv2, dy1, ← hh2, cl_r C2, ↓cl_r_b C2, cl_q C2, ↓cl_q_b C2, ci_0 C2, ↓ci_0_b C2, ci_1 C2, ↓ci_1_b C2, ci_2 C2, ↓ci_2_b C2, ci_3 C2, ↓ci_3_b C2, ci_4 C2, ↓ci_4_b C2, ci_5 C2, ↓ci_5_b C2, ci_6 C2, ↓ci_6_b C2, ci_7 C2, ↓ci_7_b C2, cr_9 C2, ↓cr_9_b C2, cr_10 C2, ↓cr_10_b C2, cr_11 C2, ↓cr_11_b C2, cr_13 C2, ↓cr_13_b C2, cr_14 C2, ↓cr_14_b C2, cr_15 C2, ↓cr_15_b C2, cr_16 C2, ↓cr_16_b C2, cr_17 C2, ↓cr_17_b C2, cr_18 C2, ↓cr_18_b C2, cr_19 C2, ↓cr_19_b C2, cr_20 C2, ↓cr_20_b C2, cr_21 C2, ↓cr_21_b C2, cr_22 C2, ↓cr_22_b C2, cr_23 C2, ↓cr_23_b C2, cr_24 C2, ↓cr_24_b C2, cr_25 C2, ↓cr_25_b C2, cr_26 C2, ↓cr_26_b C2, ca_9 HL C2, ↓ca_9_b HL C2, ca_10 HL C2, ↓ca_10_b HL C2, ca_11 HL C2, ↓ca_11_b HL C2, ca_13 HL C2, ↓ca_13_b HL C2, ca_14 HL C2, ↓ca_14_b HL C2, ca_15 HL C2, ↓ca_15_b HL C2, ca_16 HL C2, ↓ca_16_b HL C2, ca_17 HL C2, ↓ca_17_b HL C2, ca_18 HL C2, ↓ca_18_b HL C2, ca_19 HL C2, ↓ca_19_b HL C2, ca_20 HL C2, ↓ca_20_b HL C2, ca_21 HL C2, ↓ca_21_b HL C2, ca_22 HL C2, ↓ca_22_b HL C2, ca_23 HL C2, ↓ca_23_b HL C2, ca_24 HL C2, ↓ca_24_b HL C2, ca_25 HL C2, ↓ca_25_b HL C2, ca_26 HL C2, ↓ca_26_b HL C2, m_i C2.1, ↓m_i_b C2.1, m_p C2.1, ↓m_p_b C2.1, m_l C2.1, ↓m_l_b C2.1, m_pl C2.1, ↓m_pl_b C2.1, mr_15 C2.1, ↓mr_15_b C2.1, mr_16 C2.1, ↓mr_16_b C2.1, mr_17 C2.1, ↓mr_17_b C2.1, mr_18 C2.1, ↓mr_18_b C2.1, mr_21 C2.1, ↓mr_21_b C2.1, mr_22 C2.1, ↓mr_22_b C2.1, mr_23 C2.1, ↓mr_23_b C2.1, mr_24 C2.1, ↓mr_24_b C2.1, mr_25 C2.1, ↓mr_25_b C2.1, mr_30 C2.1, ↓mr_30_b C2.1, mr_31 C2.1, ↓mr_31_b C2.1, m90a C2.1, ↓m90a_b C2.1, m90s C2.1, ↓m90s_b C2.1, m91a C2.1, ↓m91a_b C2.1, m91s C2.1, ↓m91s_b C2.1, m92a C2.1, ↓m92a_b C2.1, m92s C2.1, ↓m92s_b C2.1, m93a C2.1, ↓m93a_b C2.1, m93s C2.1, ↓m93s_b C2.1, m94a C2.1, ↓m94a_b C2.1, m94s C2.1, ↓m94s_b C2.1, m95a C2.1, ↓m95a_b C2.1, m95s C2.1, ↓m95s_b C2.1, m96a C2.1, ↓m96a_b C2.1, m96s C2.1, ↓m96s_b C2.1, m97a C2.1, ↓m97a_b C2.1, m97s C2.1, ↓m97s_b C2.1, m98a C2.1, ↓m98a_b C2.1, m98s C2.1, ↓m98s_b C2.1, m99a C2.1, ↓m99a_b C2.1, m99s C2.1, ↓m99s_b C2.1, m100a C2.1, ↓m100a_b C2.1, m100s C2.1, ↓m100s_b C2.1, ↓bn_e (rm2), rm2, ← hh3, cl_r C3, ↓cl_r_b C3, cl_q C3, ↓cl_q_b C3, ci_0 C3, ↓ci_0_b C3, ci_1 C3, ↓ci_1_b C3, ci_2 C3, ↓ci_2_b C3, ci_3 C3, ↓ci_3_b C3, ci_4 C3, ↓ci_4_b C3, ci_5 C3, ↓ci_5_b C3, ci_6 C3, ↓ci_6_b C3, ci_7 C3, ↓ci_7_b C3, cr_9 C3, ↓cr_9_b C3, cr_10 C3, ↓cr_10_b C3, cr_11 C3, ↓cr_11_b C3, cr_13 C3, ↓cr_13_b C3, cr_14 C3, ↓cr_14_b C3, cr_15 C3, ↓cr_15_b C3, cr_16 C3, ↓cr_16_b C3, cr_17 C3, ↓cr_17_b C3, cr_18 C3, ↓cr_18_b C3, cr_19 C3, ↓cr_19_b C3, cr_20 C3, ↓cr_20_b C3, cr_21 C3, ↓cr_21_b C3, cr_22 C3, ↓cr_22_b C3, cr_23 C3, ↓cr_23_b C3, cr_24 C3, ↓cr_24_b C3, cr_25 C3, ↓cr_25_b C3, cr_26 C3, ↓cr_26_b C3, ca_9 HL C3, ↓ca_9_b HL C3, ca_10 HL C3, ↓ca_10_b HL C3, ca_11 HL C3, ↓ca_11_b HL C3, ca_13 HL C3, ↓ca_13_b HL C3, ca_14 HL C3, ↓ca_14_b HL C3, ca_15 HL C3, ↓ca_15_b HL C3, ca_16 HL C3, ↓ca_16_b HL C3, ca_17 HL C3, ↓ca_17_b HL C3, ca_18 HL C3, ↓ca_18_b HL C3, ca_19 HL C3, ↓ca_19_b HL C3, ca_20 HL C3, ↓ca_20_b HL C3, ca_21 HL C3, ↓ca_21_b HL C3, ca_22 HL C3, ↓ca_22_b HL C3, ca_23 HL C3, ↓ca_23_b HL C3, ca_24 HL C3, ↓ca_24_b HL C3, ca_25 HL C3, ↓ca_25_b HL C3, ca_26 HL C3, ↓ca_26_b HL C3, m_i C3.1, ↓m_i_b C3.1, m_p C3.1, ↓m_p_b C3.1, m_l C3.1, ↓m_l_b C3.1, m_pl C3.1, ↓m_pl_b C3.1, mr_15 C3.1, ↓mr_15_b C3.1, mr_16 C3.1, ↓mr_16_b C3.1, mr_17 C3.1, ↓mr_17_b C3.1, mr_18 C3.1, ↓mr_18_b C3.1, mr_21 C3.1, ↓mr_21_b C3.1, mr_22 C3.1, ↓mr_22_b C3.1, mr_23 C3.1, ↓mr_23_b C3.1, mr_24 C3.1, ↓mr_24_b C3.1, mr_25 C3.1, ↓mr_25_b C3.1, mr_30 C3.1, ↓mr_30_b C3.1, mr_31 C3.1, ↓mr_31_b C3.1, m90a C3.1, ↓m90a_b C3.1, m90s C3.1, ↓m90s_b C3.1, m91a C3.1, ↓m91a_b C3.1, m91s C3.1, ↓m91s_b C3.1, m92a C3.1, ↓m92a_b C3.1, m92s C3.1, ↓m92s_b C3.1, m93a C3.1, ↓m93a_b C3.1, m93s C3.1, ↓m93s_b C3.1, m94a C3.1, ↓m94a_b C3.1, m94s C3.1, ↓m94s_b C3.1, m95a C3.1, ↓m95a_b C3.1, m95s C3.1, ↓m95s_b C3.1, m96a C3.1, ↓m96a_b C3.1, m96s C3.1, ↓m96s_b C3.1, m97a C3.1, ↓m97a_b C3.1, m97s C3.1, ↓m97s_b C3.1, m98a C3.1, ↓m98a_b C3.1, m98s C3.1, ↓m98s_b C3.1, m99a C3.1, ↓m99a_b C3.1, m99s C3.1, ↓m99s_b C3.1, m100a C3.1, ↓m100a_b C3.1, m100s C3.1, ↓m100s_b C3.1, v3, ec]
          rfl
      · have i94 : ia h3 94 e = if (e : Int) = d then ((dyo (hn L) o : Nat) : Int) else ia h1 94 e := by
          rw [hh3, ia_wA (by omega), hh2]
          exact ia_if (by omega) (by omega) (by omega) (by omega) (by omega)
        have i95 : ia h3 95 e = if (e : Int) = d then w else ia h1 95 e := by
          rw [hh3, ia_if (by omega) (by omega) (by omega) (by omega) (by omega)]
          by_cases ee : (e : Int) = d
          · rw [if_pos ee, if_pos ee]
          · rw [if_neg ee, if_neg ee, hh2, ia_wA (by omega)]
        rw [i94, i95]
        by_cases ee : e = d
        · rw [if_pos (by omega), if_pos (by omega), ee, eq]
          exact ⟨rfl, hw⟩
        · rw [if_neg (by omega), if_neg (by omega)]
          exact x1 e (by omega) e1) (fun s h1 hI => by
      obtain ⟨rfl, f1, x1⟩ := hI
      refine ⟨_, h1, ?_, rfl, f1, x1⟩
      unfold B_md_laysPlan_16
      try simp only [j_0, j_1, j_2, j_3, j_4, j_5, j_6, j_7, j_8, j_9, j_10, j_11, j_12, j_13, j_14, j_15, j_16, j_17, j_18, j_19, j_20, j_21, j_22, j_23, j_24, j_25, j_26, j_27, j_28, j_29, j_30, j_31, j_32, j_33, j_34, j_35, j_36, j_37, j_38, j_39, j_40, j_41, j_42, j_43, j_44, j_45, j_46, j_47, j_48, j_49, j_50, j_51, j_52, j_57, j_59, j_63, j_74, j_75, j_93, j_97, j_99, j_100, j_122, j_200, j_255, j_300, j_465, j_496, j_900, j_999, j_1000, j_65536, j_65537, j_99999, j_252645135, j_858993459, j_1431655765, k_0, k_1, k_27, k_32, k_74, k_75, k_100, k_1000, k_65537]
      simp (disch := first | with_reducible assumption | omega | trivial) only [↓bn_s1, ↓bd_s1, ↓ei_l1, ↓ei_r1, ↓bn_if, ↓ilt_1, ↓ilt_0, ↓ieq_1, ↓ieq_0, bn_s1, bd_s1, ei_l1, ei_r1, J_add, J_sub, J_mul, J_neg, J_lt, J_le, J_eq, dv_J, rm_J, if_pos, if_neg, ↓reduceIte, bitJ, shlJ, orJ, j_0, j_1, j_2, j_3, j_4, j_5, j_6, j_7, j_8, j_9, j_10, j_11, j_12, j_13, j_14, j_15, j_16, j_17, j_18, j_19, j_20, j_21, j_22, j_23, j_24, j_25, j_26, j_27, j_28, j_29, j_30, j_31, j_32, j_33, j_34, j_35, j_36, j_37, j_38, j_39, j_40, j_41, j_42, j_43, j_44, j_45, j_46, j_47, j_48, j_49, j_50, j_51, j_52, j_57, j_59, j_63, j_74, j_75, j_93, j_97, j_99, j_100, j_122, j_200, j_255, j_300, j_465, j_496, j_900, j_999, j_1000, j_65536, j_65537, j_99999, j_252645135, j_858993459, j_1431655765, k_0, k_1, k_27, k_32, k_74, k_75, k_100, k_1000, k_65537])
  rw [ucr_e] at y1
  rw [Nat.sub_self] at x1
  have eD : L 4 0 - 1 = (D : Int) - 1 := by omega
  refine ⟨h1, ?_, f1, x1⟩
  unfold F_md_laysPlan
  rw [ck_e (MS_k C.1)]
  try simp only [j_0, j_1, j_2, j_3, j_4, j_5, j_6, j_7, j_8, j_9, j_10, j_11, j_12, j_13, j_14, j_15, j_16, j_17, j_18, j_19, j_20, j_21, j_22, j_23, j_24, j_25, j_26, j_27, j_28, j_29, j_30, j_31, j_32, j_33, j_34, j_35, j_36, j_37, j_38, j_39, j_40, j_41, j_42, j_43, j_44, j_45, j_46, j_47, j_48, j_49, j_50, j_51, j_52, j_57, j_59, j_63, j_74, j_75, j_93, j_97, j_99, j_100, j_122, j_200, j_255, j_300, j_465, j_496, j_900, j_999, j_1000, j_65536, j_65537, j_99999, j_252645135, j_858993459, j_1431655765, k_0, k_1, k_27, k_32, k_74, k_75, k_100, k_1000, k_65537]
  simp (disch := first | with_reducible assumption | omega | trivial) only [↓bn_s1, ↓bd_s1, ↓ei_l1, ↓ei_r1, ↓bn_if, ↓ilt_1, ↓ilt_0, ↓ieq_1, ↓ieq_0, bn_s1, bd_s1, ei_l1, ei_r1, J_add, J_sub, J_mul, J_neg, J_lt, J_le, J_eq, dv_J, rm_J, if_pos, if_neg, ↓reduceIte, bitJ, shlJ, orJ, j_0, j_1, j_2, j_3, j_4, j_5, j_6, j_7, j_8, j_9, j_10, j_11, j_12, j_13, j_14, j_15, j_16, j_17, j_18, j_19, j_20, j_21, j_22, j_23, j_24, j_25, j_26, j_27, j_28, j_29, j_30, j_31, j_32, j_33, j_34, j_35, j_36, j_37, j_38, j_39, j_40, j_41, j_42, j_43, j_44, j_45, j_46, j_47, j_48, j_49, j_50, j_51, j_52, j_57, j_59, j_63, j_74, j_75, j_93, j_97, j_99, j_100, j_122, j_200, j_255, j_300, j_465, j_496, j_900, j_999, j_1000, j_65536, j_65537, j_99999, j_252645135, j_858993459, j_1431655765, k_0, k_1, k_27, k_32, k_74, k_75, k_100, k_1000, k_65537, cl_r C, ↓cl_r_b C, cl_q C, ↓cl_q_b C, ci_0 C, ↓ci_0_b C, ci_1 C, ↓ci_1_b C, ci_2 C, ↓ci_2_b C, ci_3 C, ↓ci_3_b C, ci_4 C, ↓ci_4_b C, ci_5 C, ↓ci_5_b C, ci_6 C, ↓ci_6_b C, ci_7 C, ↓ci_7_b C, cr_9 C, ↓cr_9_b C, cr_10 C, ↓cr_10_b C, cr_11 C, ↓cr_11_b C, cr_13 C, ↓cr_13_b C, cr_14 C, ↓cr_14_b C, cr_15 C, ↓cr_15_b C, cr_16 C, ↓cr_16_b C, cr_17 C, ↓cr_17_b C, cr_18 C, ↓cr_18_b C, cr_19 C, ↓cr_19_b C, cr_20 C, ↓cr_20_b C, cr_21 C, ↓cr_21_b C, cr_22 C, ↓cr_22_b C, cr_23 C, ↓cr_23_b C, cr_24 C, ↓cr_24_b C, cr_25 C, ↓cr_25_b C, cr_26 C, ↓cr_26_b C, ca_9 HL C, ↓ca_9_b HL C, ca_10 HL C, ↓ca_10_b HL C, ca_11 HL C, ↓ca_11_b HL C, ca_13 HL C, ↓ca_13_b HL C, ca_14 HL C, ↓ca_14_b HL C, ca_15 HL C, ↓ca_15_b HL C, ca_16 HL C, ↓ca_16_b HL C, ca_17 HL C, ↓ca_17_b HL C, ca_18 HL C, ↓ca_18_b HL C, ca_19 HL C, ↓ca_19_b HL C, ca_20 HL C, ↓ca_20_b HL C, ca_21 HL C, ↓ca_21_b HL C, ca_22 HL C, ↓ca_22_b HL C, ca_23 HL C, ↓ca_23_b HL C, ca_24 HL C, ↓ca_24_b HL C, ca_25 HL C, ↓ca_25_b HL C, ca_26 HL C, ↓ca_26_b HL C, m_i C.1, ↓m_i_b C.1, m_p C.1, ↓m_p_b C.1, m_l C.1, ↓m_l_b C.1, m_pl C.1, ↓m_pl_b C.1, mr_15 C.1, ↓mr_15_b C.1, mr_16 C.1, ↓mr_16_b C.1, mr_17 C.1, ↓mr_17_b C.1, mr_18 C.1, ↓mr_18_b C.1, mr_21 C.1, ↓mr_21_b C.1, mr_22 C.1, ↓mr_22_b C.1, mr_23 C.1, ↓mr_23_b C.1, mr_24 C.1, ↓mr_24_b C.1, mr_25 C.1, ↓mr_25_b C.1, mr_30 C.1, ↓mr_30_b C.1, mr_31 C.1, ↓mr_31_b C.1, eD, ↓bd_e (e1), e1, y1]
theorem sw_pud {m : Int} {L : Lk} (HL : LW L) (h1 : 1 ≤ hn L) {T : Sk} {d o : Nat} (hd : d < L 4 0) (ho : dyo (hn L) o ≤ 4) (H : SW m L T) : SW (m + 36) L (pud L T d o) := by
  have b1 := LW_h HL
  have hne := hn_e HL
  have b3 := LW_g HL
  have dk := (LW_ds HL d (by omega) hd).1
  have cs := cst_36 HL hd ho
  have hm : hmo (hn L) o < hn L := Nat.mod_lt _ (by omega)
  have w36 : SW (m + 36) L T := ⟨fun i i0 i1 => by have := H.1 i i0 i1; omega, H.2⟩
  unfold pud
  by_cases o0 : o = 0
  · rw [if_pos o0]; exact w36
  · rw [if_neg o0]
    have w := H.1 (5 * (hmo (hn L) o : Int) + L 17 d) (by omega) (by omega)
    refine ⟨fun i i0 i1 => ?_, fun i i0 i1 => ?_, fun g g0 g1 => ?_, ?_, ?_, ?_⟩
    · unfold upS
      by_cases e : i = 5 * (hmo (hn L) o : Int) + L 17 d
      · rw [if_pos e]; omega
      · rw [if_neg e]; exact w36.1 i i0 i1
    · rw [upS_ne (by omega)]; exact H.2.1 i i0 i1
    · rw [upS_ne (by omega)]; exact H.2.2.1 g g0 g1
    · rw [upS_ne (by omega)]; exact H.2.2.2.1
    · rw [upS_ne (by omega)]; exact H.2.2.2.2.1
    · rw [upS_ne (by omega)]; exact H.2.2.2.2.2
theorem sw_Sdc {a : Ab} (HA : AW a) (c : ¬ qL a 1 0 = 0) {n : Nat} (n4 : n ≤ 4) : ∀ d p : Nat, (d : Int) ≤ qL a 4 0 → SW (999 + 36 * (d : Int)) (qL a) (Sdc (qL a) (1 + n * hn (qL a)) (qS a) d p) := by
  have b1 := LW_h HA.1
  have hne := hn_e HA.1
  intro d
  induction d with
  | zero => intro p _; exact HA.2.1.1
  | succ d ih =>
    intro p hd
    have h := ih (p / (1 + n * hn (qL a))) (by omega)
    have db := dyo_b (n := n) (Nat.mod_lt p (show 0 < 1 + n * hn (qL a) by omega)) (show 1 ≤ hn (qL a) by omega)
    have x := sw_pud HA.1 (by omega) (d := d) (o := p % (1 + n * hn (qL a))) (by omega) (by omega) h
    have e : 999 + 36 * (d : Int) + 36 = 999 + 36 * ((d + 1 : Nat) : Int) := by omega
    rw [e] at x
    exact x
theorem D_drinksAll {a : Ab} {h : Hp} {n p : Nat} (HA : AW a) (H : RQ a h) (c : ¬ qL a 1 0 = 0) (n1 : 1 ≤ n) (n4 : n ≤ 4) (Q : QH (qL a) (qcd (1 + n * hn (qL a)) (qL a 4 0).toNat p) 0 h) : ∃ h', F_md_drinksAll 88 h = some h' ∧ Fm 91 92 h h' ∧ XR (Sdc (qL a) (1 + n * hn (qL a)) (qS a) (qL a 4 0).toNat p) h' := by
  have HL := HA.1
  have b1 := LW_h HL
  have b4 := LW_d HL
  have hne := hn_e HL
  obtain ⟨b, C⟩ := lkq_1 H c
  have swd := fun (d q : Nat) (hd : (d : Int) ≤ qL a 4 0) => sw_Sdc HA c n4 d q hd
  obtain ⟨L, hL⟩ : ∃ L, L = qL a := ⟨_, rfl⟩
  rw [← hL] at HL b1 b4 hne C Q swd c ⊢
  obtain ⟨S, hS⟩ : ∃ S, S = qS a := ⟨_, rfl⟩
  rw [← hS] at swd ⊢
  obtain ⟨A, hA⟩ : ∃ A, A = 1 + n * hn L := ⟨_, rfl⟩
  obtain ⟨D, hD⟩ : ∃ D, D = (L 4 0).toNat := ⟨_, rfl⟩
  rw [← hA] at swd
  rw [← hA, ← hD] at Q ⊢
  obtain ⟨h1, e1, f1, x1⟩ := D_works H.1 (S := S) (by rw [hS]; exact H.2.2)
  obtain ⟨y, h2, e2, f2, x2⟩ := lp_for (b := B_md_drinksAll_6 88) (f := FU) (s := J 0) (h := h1) (fun k s h' => s = J k ∧ Fm 91 92 h h' ∧ XR (Sdc L A S k (lfp A p (D - k))) h') (fun _ h' => Fm 91 92 h h' ∧ XR (Sdc L A S D (lfp A p (D - D))) h') D (by unfold FU; omega) ⟨rfl, f1, x1⟩ (fun k s h2 hk hI => by
      obtain ⟨rfl, f2, x2⟩ := hI
      have C2 := RC_fm f2 (by omega) C
      have kl : (k : Int) < L 4 0 := by omega
      have qk := Q k (by omega) kl
      have v94 : ia h2 94 k = (dyo (hn L) (qcd A D p k) : Nat) := by rw [fm_ia f2 (by omega)]; exact qk.1
      have v95 : ia h2 95 k = (if qcd A D p k = 0 then (-2 : Int) else (hmo (hn L) (qcd A D p k) : Int)) := by rw [fm_ia f2 (by omega)]; exact qk.2
      have eq := qcd_d (A := A) D p k hk
      have ek : D - k = (D - (k + 1)) + 1 := by omega
      have ek2 : D - 1 - k = D - (k + 1) := by omega
      rw [ek2] at eq
      have es : Sdc L A S (k + 1) (lfp A p (D - (k + 1))) = pud L (Sdc L A S k (lfp A p (D - k))) k (qcd A D p k) := by
        rw [eq, ek]
        rfl
      have sw := swd k (lfp A p (D - k)) (by omega)
      obtain ⟨T, hT⟩ : ∃ T, T = Sdc L A S k (lfp A p (D - k)) := ⟨_, rfl⟩
      rw [← hT] at es sw x2
      obtain ⟨o, ho⟩ : ∃ o, o = qcd A D p k := ⟨_, rfl⟩
      rw [← ho] at es v94 v95
      have ol : o < A := by rw [ho]; exact qcd_lt (by omega) D p k
      have db := dyo_b (n := n) (H := hn L) (o := o) (by omega) (by omega)
      unfold pud at es
      by_cases o0 : o = 0
      · rw [if_pos o0] at es
        have dy0 : dyo (hn L) o = 0 := db.2.mpr o0
        rw [dy0] at v94
        refine ⟨J (k + 1 : Nat), h2, ?_, rfl, f2, by rw [es]; exact x2⟩
        unfold B_md_drinksAll_6
        try simp only [j_0, j_1, j_2, j_3, j_4, j_5, j_6, j_7, j_8, j_9, j_10, j_11, j_12, j_13, j_14, j_15, j_16, j_17, j_18, j_19, j_20, j_21, j_22, j_23, j_24, j_25, j_26, j_27, j_28, j_29, j_30, j_31, j_32, j_33, j_34, j_35, j_36, j_37, j_38, j_39, j_40, j_41, j_42, j_43, j_44, j_45, j_46, j_47, j_48, j_49, j_50, j_51, j_52, j_57, j_59, j_63, j_74, j_75, j_93, j_97, j_99, j_100, j_122, j_200, j_255, j_300, j_465, j_496, j_900, j_999, j_1000, j_65536, j_65537, j_99999, j_252645135, j_858993459, j_1431655765, k_0, k_1, k_27, k_32, k_74, k_75, k_100, k_1000, k_65537]
        simp (disch := first | with_reducible assumption | omega | trivial) only [↓bn_s1, ↓bd_s1, ↓ei_l1, ↓ei_r1, ↓bn_if, ↓ilt_1, ↓ilt_0, ↓ieq_1, ↓ieq_0, bn_s1, bd_s1, ei_l1, ei_r1, J_add, J_sub, J_mul, J_neg, J_lt, J_le, J_eq, dv_J, rm_J, if_pos, if_neg, ↓reduceIte, bitJ, shlJ, orJ, j_0, j_1, j_2, j_3, j_4, j_5, j_6, j_7, j_8, j_9, j_10, j_11, j_12, j_13, j_14, j_15, j_16, j_17, j_18, j_19, j_20, j_21, j_22, j_23, j_24, j_25, j_26, j_27, j_28, j_29, j_30, j_31, j_32, j_33, j_34, j_35, j_36, j_37, j_38, j_39, j_40, j_41, j_42, j_43, j_44, j_45, j_46, j_47, j_48, j_49, j_50, j_51, j_52, j_57, j_59, j_63, j_74, j_75, j_93, j_97, j_99, j_100, j_122, j_200, j_255, j_300, j_465, j_496, j_900, j_999, j_1000, j_65536, j_65537, j_99999, j_252645135, j_858993459, j_1431655765, k_0, k_1, k_27, k_32, k_74, k_75, k_100, k_1000, k_65537, cl_r C2, ↓cl_r_b C2, cl_q C2, ↓cl_q_b C2, ci_0 C2, ↓ci_0_b C2, ci_1 C2, ↓ci_1_b C2, ci_2 C2, ↓ci_2_b C2, ci_3 C2, ↓ci_3_b C2, ci_4 C2, ↓ci_4_b C2, ci_5 C2, ↓ci_5_b C2, ci_6 C2, ↓ci_6_b C2, ci_7 C2, ↓ci_7_b C2, cr_9 C2, ↓cr_9_b C2, cr_10 C2, ↓cr_10_b C2, cr_11 C2, ↓cr_11_b C2, cr_13 C2, ↓cr_13_b C2, cr_14 C2, ↓cr_14_b C2, cr_15 C2, ↓cr_15_b C2, cr_16 C2, ↓cr_16_b C2, cr_17 C2, ↓cr_17_b C2, cr_18 C2, ↓cr_18_b C2, cr_19 C2, ↓cr_19_b C2, cr_20 C2, ↓cr_20_b C2, cr_21 C2, ↓cr_21_b C2, cr_22 C2, ↓cr_22_b C2, cr_23 C2, ↓cr_23_b C2, cr_24 C2, ↓cr_24_b C2, cr_25 C2, ↓cr_25_b C2, cr_26 C2, ↓cr_26_b C2, ca_9 HL C2, ↓ca_9_b HL C2, ca_10 HL C2, ↓ca_10_b HL C2, ca_11 HL C2, ↓ca_11_b HL C2, ca_13 HL C2, ↓ca_13_b HL C2, ca_14 HL C2, ↓ca_14_b HL C2, ca_15 HL C2, ↓ca_15_b HL C2, ca_16 HL C2, ↓ca_16_b HL C2, ca_17 HL C2, ↓ca_17_b HL C2, ca_18 HL C2, ↓ca_18_b HL C2, ca_19 HL C2, ↓ca_19_b HL C2, ca_20 HL C2, ↓ca_20_b HL C2, ca_21 HL C2, ↓ca_21_b HL C2, ca_22 HL C2, ↓ca_22_b HL C2, ca_23 HL C2, ↓ca_23_b HL C2, ca_24 HL C2, ↓ca_24_b HL C2, ca_25 HL C2, ↓ca_25_b HL C2, ca_26 HL C2, ↓ca_26_b HL C2, m_i C2.1, ↓m_i_b C2.1, m_p C2.1, ↓m_p_b C2.1, m_l C2.1, ↓m_l_b C2.1, m_pl C2.1, ↓m_pl_b C2.1, mr_15 C2.1, ↓mr_15_b C2.1, mr_16 C2.1, ↓mr_16_b C2.1, mr_17 C2.1, ↓mr_17_b C2.1, mr_18 C2.1, ↓mr_18_b C2.1, mr_21 C2.1, ↓mr_21_b C2.1, mr_22 C2.1, ↓mr_22_b C2.1, mr_23 C2.1, ↓mr_23_b C2.1, mr_24 C2.1, ↓mr_24_b C2.1, mr_25 C2.1, ↓mr_25_b C2.1, mr_30 C2.1, ↓mr_30_b C2.1, mr_31 C2.1, ↓mr_31_b C2.1, m90a C2.1, ↓m90a_b C2.1, m90s C2.1, ↓m90s_b C2.1, m91a C2.1, ↓m91a_b C2.1, m91s C2.1, ↓m91s_b C2.1, m92a C2.1, ↓m92a_b C2.1, m92s C2.1, ↓m92s_b C2.1, m93a C2.1, ↓m93a_b C2.1, m93s C2.1, ↓m93s_b C2.1, m94a C2.1, ↓m94a_b C2.1, m94s C2.1, ↓m94s_b C2.1, m95a C2.1, ↓m95a_b C2.1, m95s C2.1, ↓m95s_b C2.1, m96a C2.1, ↓m96a_b C2.1, m96s C2.1, ↓m96s_b C2.1, m97a C2.1, ↓m97a_b C2.1, m97s C2.1, ↓m97s_b C2.1, m98a C2.1, ↓m98a_b C2.1, m98s C2.1, ↓m98s_b C2.1, m99a C2.1, ↓m99a_b C2.1, m99s C2.1, ↓m99s_b C2.1, m100a C2.1, ↓m100a_b C2.1, m100s C2.1, ↓m100s_b C2.1, v94]
        rfl
      · rw [if_neg o0] at es v95
        have dy0 : ¬ dyo (hn L) o = 0 := fun x => o0 (db.2.mp x)
        have hm : hmo (hn L) o < hn L := Nat.mod_lt _ (by omega)
        have dk := (LW_ds HL k (by omega) kl).1
        have cs := cst_36 HL (o := o) kl (by omega)
        have ce := cell_e (hmo (hn L) o : Nat) (L 17 k)
        have w := sw.1 (5 * (hmo (hn L) o : Int) + L 17 k) (by omega) (by omega)
        have v3 := x2 (5 * (hmo (hn L) o : Int) + L 17 k) (by omega) (by omega)
        have ec : ((dyo (hn L) o : Nat) : Int) * L 18 k = cst L k o := rfl
        have x3 := XR_w C2.1 x2 (z := 5 * (hmo (hn L) o : Int) + L 17 k) (v := T (5 * (hmo (hn L) o : Int) + L 17 k) + cst L k o) (by omega) (by omega) (by omega)
        refine ⟨J (k + 1 : Nat), _, ?_, rfl, fm_tr f2 (fm_wA (a := 91) (z := 5 * (hmo (hn L) o : Int) + L 17 k) (v := T (5 * (hmo (hn L) o : Int) + L 17 k) + cst L k o) (by omega) (by omega)), by rw [es]; exact x3⟩
        unfold B_md_drinksAll_6
        try simp only [j_0, j_1, j_2, j_3, j_4, j_5, j_6, j_7, j_8, j_9, j_10, j_11, j_12, j_13, j_14, j_15, j_16, j_17, j_18, j_19, j_20, j_21, j_22, j_23, j_24, j_25, j_26, j_27, j_28, j_29, j_30, j_31, j_32, j_33, j_34, j_35, j_36, j_37, j_38, j_39, j_40, j_41, j_42, j_43, j_44, j_45, j_46, j_47, j_48, j_49, j_50, j_51, j_52, j_57, j_59, j_63, j_74, j_75, j_93, j_97, j_99, j_100, j_122, j_200, j_255, j_300, j_465, j_496, j_900, j_999, j_1000, j_65536, j_65537, j_99999, j_252645135, j_858993459, j_1431655765, k_0, k_1, k_27, k_32, k_74, k_75, k_100, k_1000, k_65537]
        simp (disch := first | with_reducible assumption | omega | trivial) only [↓bn_s1, ↓bd_s1, ↓ei_l1, ↓ei_r1, ↓bn_if, ↓ilt_1, ↓ilt_0, ↓ieq_1, ↓ieq_0, bn_s1, bd_s1, ei_l1, ei_r1, J_add, J_sub, J_mul, J_neg, J_lt, J_le, J_eq, dv_J, rm_J, if_pos, if_neg, ↓reduceIte, bitJ, shlJ, orJ, j_0, j_1, j_2, j_3, j_4, j_5, j_6, j_7, j_8, j_9, j_10, j_11, j_12, j_13, j_14, j_15, j_16, j_17, j_18, j_19, j_20, j_21, j_22, j_23, j_24, j_25, j_26, j_27, j_28, j_29, j_30, j_31, j_32, j_33, j_34, j_35, j_36, j_37, j_38, j_39, j_40, j_41, j_42, j_43, j_44, j_45, j_46, j_47, j_48, j_49, j_50, j_51, j_52, j_57, j_59, j_63, j_74, j_75, j_93, j_97, j_99, j_100, j_122, j_200, j_255, j_300, j_465, j_496, j_900, j_999, j_1000, j_65536, j_65537, j_99999, j_252645135, j_858993459, j_1431655765, k_0, k_1, k_27, k_32, k_74, k_75, k_100, k_1000, k_65537, cl_r C2, ↓cl_r_b C2, cl_q C2, ↓cl_q_b C2, ci_0 C2, ↓ci_0_b C2, ci_1 C2, ↓ci_1_b C2, ci_2 C2, ↓ci_2_b C2, ci_3 C2, ↓ci_3_b C2, ci_4 C2, ↓ci_4_b C2, ci_5 C2, ↓ci_5_b C2, ci_6 C2, ↓ci_6_b C2, ci_7 C2, ↓ci_7_b C2, cr_9 C2, ↓cr_9_b C2, cr_10 C2, ↓cr_10_b C2, cr_11 C2, ↓cr_11_b C2, cr_13 C2, ↓cr_13_b C2, cr_14 C2, ↓cr_14_b C2, cr_15 C2, ↓cr_15_b C2, cr_16 C2, ↓cr_16_b C2, cr_17 C2, ↓cr_17_b C2, cr_18 C2, ↓cr_18_b C2, cr_19 C2, ↓cr_19_b C2, cr_20 C2, ↓cr_20_b C2, cr_21 C2, ↓cr_21_b C2, cr_22 C2, ↓cr_22_b C2, cr_23 C2, ↓cr_23_b C2, cr_24 C2, ↓cr_24_b C2, cr_25 C2, ↓cr_25_b C2, cr_26 C2, ↓cr_26_b C2, ca_9 HL C2, ↓ca_9_b HL C2, ca_10 HL C2, ↓ca_10_b HL C2, ca_11 HL C2, ↓ca_11_b HL C2, ca_13 HL C2, ↓ca_13_b HL C2, ca_14 HL C2, ↓ca_14_b HL C2, ca_15 HL C2, ↓ca_15_b HL C2, ca_16 HL C2, ↓ca_16_b HL C2, ca_17 HL C2, ↓ca_17_b HL C2, ca_18 HL C2, ↓ca_18_b HL C2, ca_19 HL C2, ↓ca_19_b HL C2, ca_20 HL C2, ↓ca_20_b HL C2, ca_21 HL C2, ↓ca_21_b HL C2, ca_22 HL C2, ↓ca_22_b HL C2, ca_23 HL C2, ↓ca_23_b HL C2, ca_24 HL C2, ↓ca_24_b HL C2, ca_25 HL C2, ↓ca_25_b HL C2, ca_26 HL C2, ↓ca_26_b HL C2, m_i C2.1, ↓m_i_b C2.1, m_p C2.1, ↓m_p_b C2.1, m_l C2.1, ↓m_l_b C2.1, m_pl C2.1, ↓m_pl_b C2.1, mr_15 C2.1, ↓mr_15_b C2.1, mr_16 C2.1, ↓mr_16_b C2.1, mr_17 C2.1, ↓mr_17_b C2.1, mr_18 C2.1, ↓mr_18_b C2.1, mr_21 C2.1, ↓mr_21_b C2.1, mr_22 C2.1, ↓mr_22_b C2.1, mr_23 C2.1, ↓mr_23_b C2.1, mr_24 C2.1, ↓mr_24_b C2.1, mr_25 C2.1, ↓mr_25_b C2.1, mr_30 C2.1, ↓mr_30_b C2.1, mr_31 C2.1, ↓mr_31_b C2.1, m90a C2.1, ↓m90a_b C2.1, m90s C2.1, ↓m90s_b C2.1, m91a C2.1, ↓m91a_b C2.1, m91s C2.1, ↓m91s_b C2.1, m92a C2.1, ↓m92a_b C2.1, m92s C2.1, ↓m92s_b C2.1, m93a C2.1, ↓m93a_b C2.1, m93s C2.1, ↓m93s_b C2.1, m94a C2.1, ↓m94a_b C2.1, m94s C2.1, ↓m94s_b C2.1, m95a C2.1, ↓m95a_b C2.1, m95s C2.1, ↓m95s_b C2.1, m96a C2.1, ↓m96a_b C2.1, m96s C2.1, ↓m96s_b C2.1, m97a C2.1, ↓m97a_b C2.1, m97s C2.1, ↓m97s_b C2.1, m98a C2.1, ↓m98a_b C2.1, m98s C2.1, ↓m98s_b C2.1, m99a C2.1, ↓m99a_b C2.1, m99s C2.1, ↓m99s_b C2.1, m100a C2.1, ↓m100a_b C2.1, m100s C2.1, ↓m100s_b C2.1, v94, v95, ↓bn_e (ce), ce, v3, ec]
        rfl) (fun s h2 hI => by
      obtain ⟨rfl, f2, x2⟩ := hI
      have C2 := RC_fm f2 (by omega) C
      refine ⟨(), h2, ?_, f2, x2⟩
      unfold B_md_drinksAll_6
      try simp only [j_0, j_1, j_2, j_3, j_4, j_5, j_6, j_7, j_8, j_9, j_10, j_11, j_12, j_13, j_14, j_15, j_16, j_17, j_18, j_19, j_20, j_21, j_22, j_23, j_24, j_25, j_26, j_27, j_28, j_29, j_30, j_31, j_32, j_33, j_34, j_35, j_36, j_37, j_38, j_39, j_40, j_41, j_42, j_43, j_44, j_45, j_46, j_47, j_48, j_49, j_50, j_51, j_52, j_57, j_59, j_63, j_74, j_75, j_93, j_97, j_99, j_100, j_122, j_200, j_255, j_300, j_465, j_496, j_900, j_999, j_1000, j_65536, j_65537, j_99999, j_252645135, j_858993459, j_1431655765, k_0, k_1, k_27, k_32, k_74, k_75, k_100, k_1000, k_65537]
      simp (disch := first | with_reducible assumption | omega | trivial) only [↓bn_s1, ↓bd_s1, ↓ei_l1, ↓ei_r1, ↓bn_if, ↓ilt_1, ↓ilt_0, ↓ieq_1, ↓ieq_0, bn_s1, bd_s1, ei_l1, ei_r1, J_add, J_sub, J_mul, J_neg, J_lt, J_le, J_eq, dv_J, rm_J, if_pos, if_neg, ↓reduceIte, bitJ, shlJ, orJ, j_0, j_1, j_2, j_3, j_4, j_5, j_6, j_7, j_8, j_9, j_10, j_11, j_12, j_13, j_14, j_15, j_16, j_17, j_18, j_19, j_20, j_21, j_22, j_23, j_24, j_25, j_26, j_27, j_28, j_29, j_30, j_31, j_32, j_33, j_34, j_35, j_36, j_37, j_38, j_39, j_40, j_41, j_42, j_43, j_44, j_45, j_46, j_47, j_48, j_49, j_50, j_51, j_52, j_57, j_59, j_63, j_74, j_75, j_93, j_97, j_99, j_100, j_122, j_200, j_255, j_300, j_465, j_496, j_900, j_999, j_1000, j_65536, j_65537, j_99999, j_252645135, j_858993459, j_1431655765, k_0, k_1, k_27, k_32, k_74, k_75, k_100, k_1000, k_65537, cl_r C2, ↓cl_r_b C2, cl_q C2, ↓cl_q_b C2, ci_0 C2, ↓ci_0_b C2, ci_1 C2, ↓ci_1_b C2, ci_2 C2, ↓ci_2_b C2, ci_3 C2, ↓ci_3_b C2, ci_4 C2, ↓ci_4_b C2, ci_5 C2, ↓ci_5_b C2, ci_6 C2, ↓ci_6_b C2, ci_7 C2, ↓ci_7_b C2, cr_9 C2, ↓cr_9_b C2, cr_10 C2, ↓cr_10_b C2, cr_11 C2, ↓cr_11_b C2, cr_13 C2, ↓cr_13_b C2, cr_14 C2, ↓cr_14_b C2, cr_15 C2, ↓cr_15_b C2, cr_16 C2, ↓cr_16_b C2, cr_17 C2, ↓cr_17_b C2, cr_18 C2, ↓cr_18_b C2, cr_19 C2, ↓cr_19_b C2, cr_20 C2, ↓cr_20_b C2, cr_21 C2, ↓cr_21_b C2, cr_22 C2, ↓cr_22_b C2, cr_23 C2, ↓cr_23_b C2, cr_24 C2, ↓cr_24_b C2, cr_25 C2, ↓cr_25_b C2, cr_26 C2, ↓cr_26_b C2, ca_9 HL C2, ↓ca_9_b HL C2, ca_10 HL C2, ↓ca_10_b HL C2, ca_11 HL C2, ↓ca_11_b HL C2, ca_13 HL C2, ↓ca_13_b HL C2, ca_14 HL C2, ↓ca_14_b HL C2, ca_15 HL C2, ↓ca_15_b HL C2, ca_16 HL C2, ↓ca_16_b HL C2, ca_17 HL C2, ↓ca_17_b HL C2, ca_18 HL C2, ↓ca_18_b HL C2, ca_19 HL C2, ↓ca_19_b HL C2, ca_20 HL C2, ↓ca_20_b HL C2, ca_21 HL C2, ↓ca_21_b HL C2, ca_22 HL C2, ↓ca_22_b HL C2, ca_23 HL C2, ↓ca_23_b HL C2, ca_24 HL C2, ↓ca_24_b HL C2, ca_25 HL C2, ↓ca_25_b HL C2, ca_26 HL C2, ↓ca_26_b HL C2, m_i C2.1, ↓m_i_b C2.1, m_p C2.1, ↓m_p_b C2.1, m_l C2.1, ↓m_l_b C2.1, m_pl C2.1, ↓m_pl_b C2.1, mr_15 C2.1, ↓mr_15_b C2.1, mr_16 C2.1, ↓mr_16_b C2.1, mr_17 C2.1, ↓mr_17_b C2.1, mr_18 C2.1, ↓mr_18_b C2.1, mr_21 C2.1, ↓mr_21_b C2.1, mr_22 C2.1, ↓mr_22_b C2.1, mr_23 C2.1, ↓mr_23_b C2.1, mr_24 C2.1, ↓mr_24_b C2.1, mr_25 C2.1, ↓mr_25_b C2.1, mr_30 C2.1, ↓mr_30_b C2.1, mr_31 C2.1, ↓mr_31_b C2.1])
  rw [Nat.sub_self] at x2
  refine ⟨h2, ?_, f2, x2⟩
  unfold F_md_drinksAll
  rw [ck_e (MS_k C.1)]
  try simp only [j_0, j_1, j_2, j_3, j_4, j_5, j_6, j_7, j_8, j_9, j_10, j_11, j_12, j_13, j_14, j_15, j_16, j_17, j_18, j_19, j_20, j_21, j_22, j_23, j_24, j_25, j_26, j_27, j_28, j_29, j_30, j_31, j_32, j_33, j_34, j_35, j_36, j_37, j_38, j_39, j_40, j_41, j_42, j_43, j_44, j_45, j_46, j_47, j_48, j_49, j_50, j_51, j_52, j_57, j_59, j_63, j_74, j_75, j_93, j_97, j_99, j_100, j_122, j_200, j_255, j_300, j_465, j_496, j_900, j_999, j_1000, j_65536, j_65537, j_99999, j_252645135, j_858993459, j_1431655765, k_0, k_1, k_27, k_32, k_74, k_75, k_100, k_1000, k_65537]
  simp (disch := first | with_reducible assumption | omega | trivial) only [↓bn_s1, ↓bd_s1, ↓ei_l1, ↓ei_r1, ↓bn_if, ↓ilt_1, ↓ilt_0, ↓ieq_1, ↓ieq_0, bn_s1, bd_s1, ei_l1, ei_r1, J_add, J_sub, J_mul, J_neg, J_lt, J_le, J_eq, dv_J, rm_J, if_pos, if_neg, ↓reduceIte, bitJ, shlJ, orJ, j_0, j_1, j_2, j_3, j_4, j_5, j_6, j_7, j_8, j_9, j_10, j_11, j_12, j_13, j_14, j_15, j_16, j_17, j_18, j_19, j_20, j_21, j_22, j_23, j_24, j_25, j_26, j_27, j_28, j_29, j_30, j_31, j_32, j_33, j_34, j_35, j_36, j_37, j_38, j_39, j_40, j_41, j_42, j_43, j_44, j_45, j_46, j_47, j_48, j_49, j_50, j_51, j_52, j_57, j_59, j_63, j_74, j_75, j_93, j_97, j_99, j_100, j_122, j_200, j_255, j_300, j_465, j_496, j_900, j_999, j_1000, j_65536, j_65537, j_99999, j_252645135, j_858993459, j_1431655765, k_0, k_1, k_27, k_32, k_74, k_75, k_100, k_1000, k_65537, ↓bn_e (e1), e1, ↓bd_e (e2), e2]
theorem D_allDry {a : Ab} {h : Hp} {n p : Nat} (HA : AW a) (H : RQ a h) (c : ¬ qL a 1 0 = 0) (n1 : 1 ≤ n) (n4 : n ≤ 4) (Q : QH (qL a) (qcd (1 + n * hn (qL a)) (qL a 4 0).toNat p) 0 h) : ∃ h', F_md_allDry 88 h = some (J (if fsi (fun f => decide (hgt (qL a) (sfn (qL a) (Sdc (qL a) (1 + n * hn (qL a)) (qS a) (qL a 4 0).toNat p) (qL a 20 f).toNat) (qL a 19 f) < qL a 21 f)) (qL a 5 0).toNat = (qL a 5 0).toNat then 1 else 0), h') ∧ Fm 91 92 h h' := by
  have HL := HA.1
  have b4 := LW_d HL
  have b5 := LW_f HL
  obtain ⟨b, C⟩ := lkq_1 H c
  have sw := sw_Sdc HA c n4 (qL a 4 0).toNat p (by omega)
  obtain ⟨T, hT⟩ : ∃ T, T = Sdc (qL a) (1 + n * hn (qL a)) (qS a) (qL a 4 0).toNat p := ⟨_, rfl⟩
  rw [← hT] at sw ⊢
  obtain ⟨m1, m2, m3⟩ := fsi_p (fun f => decide (hgt (qL a) (sfn (qL a) T (qL a 20 f).toNat) (qL a 19 f) < qL a 21 f)) (qL a 5 0).toNat
  obtain ⟨w, hw⟩ : ∃ w, w = fsi (fun f => decide (hgt (qL a) (sfn (qL a) T (qL a 20 f).toNat) (qL a 19 f) < qL a 21 f)) (qL a 5 0).toNat := ⟨_, rfl⟩
  rw [← hw] at m1 m2 m3 ⊢
  have stp : ∀ (i : Nat) (h2 : Hp), (i : Int) < qL a 5 0 → Fm 91 92 h h2 → ∃ h3 h4, F_md_drinksAll 88 h2 = some h3 ∧ RC (qL a) b h3 ∧ F_md_softensAll 88 (J (qL a 20 i)) h3 = some h4 ∧ Fm 91 92 h h4 ∧ F_md_isDry 88 (J i) h4 = some (J (if hgt (qL a) (sfn (qL a) T (qL a 20 i).toNat) (qL a 19 i) < qL a 21 i then 0 else 1)) := by
    intro i h2 hi f2
    have w := LW_fs HL i (by omega) hi
    have Q2 : QH (qL a) (qcd (1 + n * hn (qL a)) (qL a 4 0).toNat p) 0 h2 := fun d d0 d1 => by rw [fm_ia f2 (by omega), fm_ia f2 (by omega)]; exact Q d d0 d1
    obtain ⟨h3, e3, f3, x3⟩ := D_drinksAll HA (RQ_qr (qr_91 f2) H) c n1 n4 Q2
    rw [← hT] at x3
    have C3 := RC_fm f3 (by omega) (RC_fm f2 (by omega) C)
    obtain ⟨h4, e4, f4, x4⟩ := D_softensAll (n := (qL a 20 i).toNat) HL C3 x3 (by omega)
    have ez : (((qL a 20 i).toNat : Nat) : Int) = qL a 20 i := by omega
    rw [ez] at e4
    have C4 := RC_fm f4 (by omega) C3
    exact ⟨h3, h4, e3, C3, e4, fm_tr f2 (fm_tr f3 f4), D_isDry HL C4 x4 (sw_stk (by omega) (sfn_sw HL (by omega) sw _)) hi⟩
  obtain ⟨y, h1, e1, y1, f1⟩ := lp_for (b := B_md_allDry_2 88) (f := FU) (s := J 0) (h := h) (fun i s h' => s = J i ∧ Fm 91 92 h h') (fun y h' => y = (if w < (qL a 5 0).toNat then Sum.inr (J 0) else Sum.inl ()) ∧ Fm 91 92 h h') w (by unfold FU; omega) ⟨rfl, fm_rf _ _ _⟩ (fun i s h1 hi hI => by
      obtain ⟨rfl, f1⟩ := hI
      have C1 := RC_fm f1 (by omega) C
      obtain ⟨h2, h3, e2, C2, e3, f3, e4⟩ := stp i h1 (by omega) f1
      have nn : ¬ hgt (qL a) (sfn (qL a) T (qL a 20 i).toNat) (qL a 19 i) < qL a 21 i := of_decide_eq_false (m2 i hi)
      rw [if_neg nn] at e4
      refine ⟨J (i + 1 : Nat), h3, ?_, rfl, f3⟩
      unfold B_md_allDry_2
      try simp only [j_0, j_1, j_2, j_3, j_4, j_5, j_6, j_7, j_8, j_9, j_10, j_11, j_12, j_13, j_14, j_15, j_16, j_17, j_18, j_19, j_20, j_21, j_22, j_23, j_24, j_25, j_26, j_27, j_28, j_29, j_30, j_31, j_32, j_33, j_34, j_35, j_36, j_37, j_38, j_39, j_40, j_41, j_42, j_43, j_44, j_45, j_46, j_47, j_48, j_49, j_50, j_51, j_52, j_57, j_59, j_63, j_74, j_75, j_93, j_97, j_99, j_100, j_122, j_200, j_255, j_300, j_465, j_496, j_900, j_999, j_1000, j_65536, j_65537, j_99999, j_252645135, j_858993459, j_1431655765, k_0, k_1, k_27, k_32, k_74, k_75, k_100, k_1000, k_65537]
      simp (disch := first | with_reducible assumption | omega | trivial) only [↓bn_s1, ↓bd_s1, ↓ei_l1, ↓ei_r1, ↓bn_if, ↓ilt_1, ↓ilt_0, ↓ieq_1, ↓ieq_0, bn_s1, bd_s1, ei_l1, ei_r1, J_add, J_sub, J_mul, J_neg, J_lt, J_le, J_eq, dv_J, rm_J, if_pos, if_neg, ↓reduceIte, bitJ, shlJ, orJ, j_0, j_1, j_2, j_3, j_4, j_5, j_6, j_7, j_8, j_9, j_10, j_11, j_12, j_13, j_14, j_15, j_16, j_17, j_18, j_19, j_20, j_21, j_22, j_23, j_24, j_25, j_26, j_27, j_28, j_29, j_30, j_31, j_32, j_33, j_34, j_35, j_36, j_37, j_38, j_39, j_40, j_41, j_42, j_43, j_44, j_45, j_46, j_47, j_48, j_49, j_50, j_51, j_52, j_57, j_59, j_63, j_74, j_75, j_93, j_97, j_99, j_100, j_122, j_200, j_255, j_300, j_465, j_496, j_900, j_999, j_1000, j_65536, j_65537, j_99999, j_252645135, j_858993459, j_1431655765, k_0, k_1, k_27, k_32, k_74, k_75, k_100, k_1000, k_65537, cl_r C1, ↓cl_r_b C1, cl_q C1, ↓cl_q_b C1, ci_0 C1, ↓ci_0_b C1, ci_1 C1, ↓ci_1_b C1, ci_2 C1, ↓ci_2_b C1, ci_3 C1, ↓ci_3_b C1, ci_4 C1, ↓ci_4_b C1, ci_5 C1, ↓ci_5_b C1, ci_6 C1, ↓ci_6_b C1, ci_7 C1, ↓ci_7_b C1, cr_9 C1, ↓cr_9_b C1, cr_10 C1, ↓cr_10_b C1, cr_11 C1, ↓cr_11_b C1, cr_13 C1, ↓cr_13_b C1, cr_14 C1, ↓cr_14_b C1, cr_15 C1, ↓cr_15_b C1, cr_16 C1, ↓cr_16_b C1, cr_17 C1, ↓cr_17_b C1, cr_18 C1, ↓cr_18_b C1, cr_19 C1, ↓cr_19_b C1, cr_20 C1, ↓cr_20_b C1, cr_21 C1, ↓cr_21_b C1, cr_22 C1, ↓cr_22_b C1, cr_23 C1, ↓cr_23_b C1, cr_24 C1, ↓cr_24_b C1, cr_25 C1, ↓cr_25_b C1, cr_26 C1, ↓cr_26_b C1, ca_9 HL C1, ↓ca_9_b HL C1, ca_10 HL C1, ↓ca_10_b HL C1, ca_11 HL C1, ↓ca_11_b HL C1, ca_13 HL C1, ↓ca_13_b HL C1, ca_14 HL C1, ↓ca_14_b HL C1, ca_15 HL C1, ↓ca_15_b HL C1, ca_16 HL C1, ↓ca_16_b HL C1, ca_17 HL C1, ↓ca_17_b HL C1, ca_18 HL C1, ↓ca_18_b HL C1, ca_19 HL C1, ↓ca_19_b HL C1, ca_20 HL C1, ↓ca_20_b HL C1, ca_21 HL C1, ↓ca_21_b HL C1, ca_22 HL C1, ↓ca_22_b HL C1, ca_23 HL C1, ↓ca_23_b HL C1, ca_24 HL C1, ↓ca_24_b HL C1, ca_25 HL C1, ↓ca_25_b HL C1, ca_26 HL C1, ↓ca_26_b HL C1, m_i C1.1, ↓m_i_b C1.1, m_p C1.1, ↓m_p_b C1.1, m_l C1.1, ↓m_l_b C1.1, m_pl C1.1, ↓m_pl_b C1.1, mr_15 C1.1, ↓mr_15_b C1.1, mr_16 C1.1, ↓mr_16_b C1.1, mr_17 C1.1, ↓mr_17_b C1.1, mr_18 C1.1, ↓mr_18_b C1.1, mr_21 C1.1, ↓mr_21_b C1.1, mr_22 C1.1, ↓mr_22_b C1.1, mr_23 C1.1, ↓mr_23_b C1.1, mr_24 C1.1, ↓mr_24_b C1.1, mr_25 C1.1, ↓mr_25_b C1.1, mr_30 C1.1, ↓mr_30_b C1.1, mr_31 C1.1, ↓mr_31_b C1.1, ↓bn_e (e2), e2, cl_r C2, ↓cl_r_b C2, cl_q C2, ↓cl_q_b C2, ci_0 C2, ↓ci_0_b C2, ci_1 C2, ↓ci_1_b C2, ci_2 C2, ↓ci_2_b C2, ci_3 C2, ↓ci_3_b C2, ci_4 C2, ↓ci_4_b C2, ci_5 C2, ↓ci_5_b C2, ci_6 C2, ↓ci_6_b C2, ci_7 C2, ↓ci_7_b C2, cr_9 C2, ↓cr_9_b C2, cr_10 C2, ↓cr_10_b C2, cr_11 C2, ↓cr_11_b C2, cr_13 C2, ↓cr_13_b C2, cr_14 C2, ↓cr_14_b C2, cr_15 C2, ↓cr_15_b C2, cr_16 C2, ↓cr_16_b C2, cr_17 C2, ↓cr_17_b C2, cr_18 C2, ↓cr_18_b C2, cr_19 C2, ↓cr_19_b C2, cr_20 C2, ↓cr_20_b C2, cr_21 C2, ↓cr_21_b C2, cr_22 C2, ↓cr_22_b C2, cr_23 C2, ↓cr_23_b C2, cr_24 C2, ↓cr_24_b C2, cr_25 C2, ↓cr_25_b C2, cr_26 C2, ↓cr_26_b C2, ca_9 HL C2, ↓ca_9_b HL C2, ca_10 HL C2, ↓ca_10_b HL C2, ca_11 HL C2, ↓ca_11_b HL C2, ca_13 HL C2, ↓ca_13_b HL C2, ca_14 HL C2, ↓ca_14_b HL C2, ca_15 HL C2, ↓ca_15_b HL C2, ca_16 HL C2, ↓ca_16_b HL C2, ca_17 HL C2, ↓ca_17_b HL C2, ca_18 HL C2, ↓ca_18_b HL C2, ca_19 HL C2, ↓ca_19_b HL C2, ca_20 HL C2, ↓ca_20_b HL C2, ca_21 HL C2, ↓ca_21_b HL C2, ca_22 HL C2, ↓ca_22_b HL C2, ca_23 HL C2, ↓ca_23_b HL C2, ca_24 HL C2, ↓ca_24_b HL C2, ca_25 HL C2, ↓ca_25_b HL C2, ca_26 HL C2, ↓ca_26_b HL C2, m_i C2.1, ↓m_i_b C2.1, m_p C2.1, ↓m_p_b C2.1, m_l C2.1, ↓m_l_b C2.1, m_pl C2.1, ↓m_pl_b C2.1, mr_15 C2.1, ↓mr_15_b C2.1, mr_16 C2.1, ↓mr_16_b C2.1, mr_17 C2.1, ↓mr_17_b C2.1, mr_18 C2.1, ↓mr_18_b C2.1, mr_21 C2.1, ↓mr_21_b C2.1, mr_22 C2.1, ↓mr_22_b C2.1, mr_23 C2.1, ↓mr_23_b C2.1, mr_24 C2.1, ↓mr_24_b C2.1, mr_25 C2.1, ↓mr_25_b C2.1, mr_30 C2.1, ↓mr_30_b C2.1, mr_31 C2.1, ↓mr_31_b C2.1, ↓bn_e (e3), e3, ↓bn_e (e4), e4]
      rfl) (fun s h1 hI => by
      obtain ⟨rfl, f1⟩ := hI
      have C1 := RC_fm f1 (by omega) C
      by_cases cm : w < (qL a 5 0).toNat
      · obtain ⟨h2, h3, e2, C2, e3, f3, e4⟩ := stp w h1 (by omega) f1
        have yy : hgt (qL a) (sfn (qL a) T (qL a 20 w).toNat) (qL a 19 w) < qL a 21 w := of_decide_eq_true (m3 cm)
        rw [if_pos yy] at e4
        refine ⟨_, h3, ?_, (if_pos cm).symm, f3⟩
        unfold B_md_allDry_2
        try simp only [j_0, j_1, j_2, j_3, j_4, j_5, j_6, j_7, j_8, j_9, j_10, j_11, j_12, j_13, j_14, j_15, j_16, j_17, j_18, j_19, j_20, j_21, j_22, j_23, j_24, j_25, j_26, j_27, j_28, j_29, j_30, j_31, j_32, j_33, j_34, j_35, j_36, j_37, j_38, j_39, j_40, j_41, j_42, j_43, j_44, j_45, j_46, j_47, j_48, j_49, j_50, j_51, j_52, j_57, j_59, j_63, j_74, j_75, j_93, j_97, j_99, j_100, j_122, j_200, j_255, j_300, j_465, j_496, j_900, j_999, j_1000, j_65536, j_65537, j_99999, j_252645135, j_858993459, j_1431655765, k_0, k_1, k_27, k_32, k_74, k_75, k_100, k_1000, k_65537]
        simp (disch := first | with_reducible assumption | omega | trivial) only [↓bn_s1, ↓bd_s1, ↓ei_l1, ↓ei_r1, ↓bn_if, ↓ilt_1, ↓ilt_0, ↓ieq_1, ↓ieq_0, bn_s1, bd_s1, ei_l1, ei_r1, J_add, J_sub, J_mul, J_neg, J_lt, J_le, J_eq, dv_J, rm_J, if_pos, if_neg, ↓reduceIte, bitJ, shlJ, orJ, j_0, j_1, j_2, j_3, j_4, j_5, j_6, j_7, j_8, j_9, j_10, j_11, j_12, j_13, j_14, j_15, j_16, j_17, j_18, j_19, j_20, j_21, j_22, j_23, j_24, j_25, j_26, j_27, j_28, j_29, j_30, j_31, j_32, j_33, j_34, j_35, j_36, j_37, j_38, j_39, j_40, j_41, j_42, j_43, j_44, j_45, j_46, j_47, j_48, j_49, j_50, j_51, j_52, j_57, j_59, j_63, j_74, j_75, j_93, j_97, j_99, j_100, j_122, j_200, j_255, j_300, j_465, j_496, j_900, j_999, j_1000, j_65536, j_65537, j_99999, j_252645135, j_858993459, j_1431655765, k_0, k_1, k_27, k_32, k_74, k_75, k_100, k_1000, k_65537, cl_r C1, ↓cl_r_b C1, cl_q C1, ↓cl_q_b C1, ci_0 C1, ↓ci_0_b C1, ci_1 C1, ↓ci_1_b C1, ci_2 C1, ↓ci_2_b C1, ci_3 C1, ↓ci_3_b C1, ci_4 C1, ↓ci_4_b C1, ci_5 C1, ↓ci_5_b C1, ci_6 C1, ↓ci_6_b C1, ci_7 C1, ↓ci_7_b C1, cr_9 C1, ↓cr_9_b C1, cr_10 C1, ↓cr_10_b C1, cr_11 C1, ↓cr_11_b C1, cr_13 C1, ↓cr_13_b C1, cr_14 C1, ↓cr_14_b C1, cr_15 C1, ↓cr_15_b C1, cr_16 C1, ↓cr_16_b C1, cr_17 C1, ↓cr_17_b C1, cr_18 C1, ↓cr_18_b C1, cr_19 C1, ↓cr_19_b C1, cr_20 C1, ↓cr_20_b C1, cr_21 C1, ↓cr_21_b C1, cr_22 C1, ↓cr_22_b C1, cr_23 C1, ↓cr_23_b C1, cr_24 C1, ↓cr_24_b C1, cr_25 C1, ↓cr_25_b C1, cr_26 C1, ↓cr_26_b C1, ca_9 HL C1, ↓ca_9_b HL C1, ca_10 HL C1, ↓ca_10_b HL C1, ca_11 HL C1, ↓ca_11_b HL C1, ca_13 HL C1, ↓ca_13_b HL C1, ca_14 HL C1, ↓ca_14_b HL C1, ca_15 HL C1, ↓ca_15_b HL C1, ca_16 HL C1, ↓ca_16_b HL C1, ca_17 HL C1, ↓ca_17_b HL C1, ca_18 HL C1, ↓ca_18_b HL C1, ca_19 HL C1, ↓ca_19_b HL C1, ca_20 HL C1, ↓ca_20_b HL C1, ca_21 HL C1, ↓ca_21_b HL C1, ca_22 HL C1, ↓ca_22_b HL C1, ca_23 HL C1, ↓ca_23_b HL C1, ca_24 HL C1, ↓ca_24_b HL C1, ca_25 HL C1, ↓ca_25_b HL C1, ca_26 HL C1, ↓ca_26_b HL C1, m_i C1.1, ↓m_i_b C1.1, m_p C1.1, ↓m_p_b C1.1, m_l C1.1, ↓m_l_b C1.1, m_pl C1.1, ↓m_pl_b C1.1, mr_15 C1.1, ↓mr_15_b C1.1, mr_16 C1.1, ↓mr_16_b C1.1, mr_17 C1.1, ↓mr_17_b C1.1, mr_18 C1.1, ↓mr_18_b C1.1, mr_21 C1.1, ↓mr_21_b C1.1, mr_22 C1.1, ↓mr_22_b C1.1, mr_23 C1.1, ↓mr_23_b C1.1, mr_24 C1.1, ↓mr_24_b C1.1, mr_25 C1.1, ↓mr_25_b C1.1, mr_30 C1.1, ↓mr_30_b C1.1, mr_31 C1.1, ↓mr_31_b C1.1, ↓bn_e (e2), e2, cl_r C2, ↓cl_r_b C2, cl_q C2, ↓cl_q_b C2, ci_0 C2, ↓ci_0_b C2, ci_1 C2, ↓ci_1_b C2, ci_2 C2, ↓ci_2_b C2, ci_3 C2, ↓ci_3_b C2, ci_4 C2, ↓ci_4_b C2, ci_5 C2, ↓ci_5_b C2, ci_6 C2, ↓ci_6_b C2, ci_7 C2, ↓ci_7_b C2, cr_9 C2, ↓cr_9_b C2, cr_10 C2, ↓cr_10_b C2, cr_11 C2, ↓cr_11_b C2, cr_13 C2, ↓cr_13_b C2, cr_14 C2, ↓cr_14_b C2, cr_15 C2, ↓cr_15_b C2, cr_16 C2, ↓cr_16_b C2, cr_17 C2, ↓cr_17_b C2, cr_18 C2, ↓cr_18_b C2, cr_19 C2, ↓cr_19_b C2, cr_20 C2, ↓cr_20_b C2, cr_21 C2, ↓cr_21_b C2, cr_22 C2, ↓cr_22_b C2, cr_23 C2, ↓cr_23_b C2, cr_24 C2, ↓cr_24_b C2, cr_25 C2, ↓cr_25_b C2, cr_26 C2, ↓cr_26_b C2, ca_9 HL C2, ↓ca_9_b HL C2, ca_10 HL C2, ↓ca_10_b HL C2, ca_11 HL C2, ↓ca_11_b HL C2, ca_13 HL C2, ↓ca_13_b HL C2, ca_14 HL C2, ↓ca_14_b HL C2, ca_15 HL C2, ↓ca_15_b HL C2, ca_16 HL C2, ↓ca_16_b HL C2, ca_17 HL C2, ↓ca_17_b HL C2, ca_18 HL C2, ↓ca_18_b HL C2, ca_19 HL C2, ↓ca_19_b HL C2, ca_20 HL C2, ↓ca_20_b HL C2, ca_21 HL C2, ↓ca_21_b HL C2, ca_22 HL C2, ↓ca_22_b HL C2, ca_23 HL C2, ↓ca_23_b HL C2, ca_24 HL C2, ↓ca_24_b HL C2, ca_25 HL C2, ↓ca_25_b HL C2, ca_26 HL C2, ↓ca_26_b HL C2, m_i C2.1, ↓m_i_b C2.1, m_p C2.1, ↓m_p_b C2.1, m_l C2.1, ↓m_l_b C2.1, m_pl C2.1, ↓m_pl_b C2.1, mr_15 C2.1, ↓mr_15_b C2.1, mr_16 C2.1, ↓mr_16_b C2.1, mr_17 C2.1, ↓mr_17_b C2.1, mr_18 C2.1, ↓mr_18_b C2.1, mr_21 C2.1, ↓mr_21_b C2.1, mr_22 C2.1, ↓mr_22_b C2.1, mr_23 C2.1, ↓mr_23_b C2.1, mr_24 C2.1, ↓mr_24_b C2.1, mr_25 C2.1, ↓mr_25_b C2.1, mr_30 C2.1, ↓mr_30_b C2.1, mr_31 C2.1, ↓mr_31_b C2.1, ↓bn_e (e3), e3, ↓bn_e (e4), e4]
      · refine ⟨_, h1, ?_, (if_neg cm).symm, f1⟩
        unfold B_md_allDry_2
        try simp only [j_0, j_1, j_2, j_3, j_4, j_5, j_6, j_7, j_8, j_9, j_10, j_11, j_12, j_13, j_14, j_15, j_16, j_17, j_18, j_19, j_20, j_21, j_22, j_23, j_24, j_25, j_26, j_27, j_28, j_29, j_30, j_31, j_32, j_33, j_34, j_35, j_36, j_37, j_38, j_39, j_40, j_41, j_42, j_43, j_44, j_45, j_46, j_47, j_48, j_49, j_50, j_51, j_52, j_57, j_59, j_63, j_74, j_75, j_93, j_97, j_99, j_100, j_122, j_200, j_255, j_300, j_465, j_496, j_900, j_999, j_1000, j_65536, j_65537, j_99999, j_252645135, j_858993459, j_1431655765, k_0, k_1, k_27, k_32, k_74, k_75, k_100, k_1000, k_65537]
        simp (disch := first | with_reducible assumption | omega | trivial) only [↓bn_s1, ↓bd_s1, ↓ei_l1, ↓ei_r1, ↓bn_if, ↓ilt_1, ↓ilt_0, ↓ieq_1, ↓ieq_0, bn_s1, bd_s1, ei_l1, ei_r1, J_add, J_sub, J_mul, J_neg, J_lt, J_le, J_eq, dv_J, rm_J, if_pos, if_neg, ↓reduceIte, bitJ, shlJ, orJ, j_0, j_1, j_2, j_3, j_4, j_5, j_6, j_7, j_8, j_9, j_10, j_11, j_12, j_13, j_14, j_15, j_16, j_17, j_18, j_19, j_20, j_21, j_22, j_23, j_24, j_25, j_26, j_27, j_28, j_29, j_30, j_31, j_32, j_33, j_34, j_35, j_36, j_37, j_38, j_39, j_40, j_41, j_42, j_43, j_44, j_45, j_46, j_47, j_48, j_49, j_50, j_51, j_52, j_57, j_59, j_63, j_74, j_75, j_93, j_97, j_99, j_100, j_122, j_200, j_255, j_300, j_465, j_496, j_900, j_999, j_1000, j_65536, j_65537, j_99999, j_252645135, j_858993459, j_1431655765, k_0, k_1, k_27, k_32, k_74, k_75, k_100, k_1000, k_65537, cl_r C1, ↓cl_r_b C1, cl_q C1, ↓cl_q_b C1, ci_0 C1, ↓ci_0_b C1, ci_1 C1, ↓ci_1_b C1, ci_2 C1, ↓ci_2_b C1, ci_3 C1, ↓ci_3_b C1, ci_4 C1, ↓ci_4_b C1, ci_5 C1, ↓ci_5_b C1, ci_6 C1, ↓ci_6_b C1, ci_7 C1, ↓ci_7_b C1, cr_9 C1, ↓cr_9_b C1, cr_10 C1, ↓cr_10_b C1, cr_11 C1, ↓cr_11_b C1, cr_13 C1, ↓cr_13_b C1, cr_14 C1, ↓cr_14_b C1, cr_15 C1, ↓cr_15_b C1, cr_16 C1, ↓cr_16_b C1, cr_17 C1, ↓cr_17_b C1, cr_18 C1, ↓cr_18_b C1, cr_19 C1, ↓cr_19_b C1, cr_20 C1, ↓cr_20_b C1, cr_21 C1, ↓cr_21_b C1, cr_22 C1, ↓cr_22_b C1, cr_23 C1, ↓cr_23_b C1, cr_24 C1, ↓cr_24_b C1, cr_25 C1, ↓cr_25_b C1, cr_26 C1, ↓cr_26_b C1, ca_9 HL C1, ↓ca_9_b HL C1, ca_10 HL C1, ↓ca_10_b HL C1, ca_11 HL C1, ↓ca_11_b HL C1, ca_13 HL C1, ↓ca_13_b HL C1, ca_14 HL C1, ↓ca_14_b HL C1, ca_15 HL C1, ↓ca_15_b HL C1, ca_16 HL C1, ↓ca_16_b HL C1, ca_17 HL C1, ↓ca_17_b HL C1, ca_18 HL C1, ↓ca_18_b HL C1, ca_19 HL C1, ↓ca_19_b HL C1, ca_20 HL C1, ↓ca_20_b HL C1, ca_21 HL C1, ↓ca_21_b HL C1, ca_22 HL C1, ↓ca_22_b HL C1, ca_23 HL C1, ↓ca_23_b HL C1, ca_24 HL C1, ↓ca_24_b HL C1, ca_25 HL C1, ↓ca_25_b HL C1, ca_26 HL C1, ↓ca_26_b HL C1, m_i C1.1, ↓m_i_b C1.1, m_p C1.1, ↓m_p_b C1.1, m_l C1.1, ↓m_l_b C1.1, m_pl C1.1, ↓m_pl_b C1.1, mr_15 C1.1, ↓mr_15_b C1.1, mr_16 C1.1, ↓mr_16_b C1.1, mr_17 C1.1, ↓mr_17_b C1.1, mr_18 C1.1, ↓mr_18_b C1.1, mr_21 C1.1, ↓mr_21_b C1.1, mr_22 C1.1, ↓mr_22_b C1.1, mr_23 C1.1, ↓mr_23_b C1.1, mr_24 C1.1, ↓mr_24_b C1.1, mr_25 C1.1, ↓mr_25_b C1.1, mr_30 C1.1, ↓mr_30_b C1.1, mr_31 C1.1, ↓mr_31_b C1.1])
  refine ⟨h1, ?_, f1⟩
  unfold F_md_allDry
  rw [ck_e (MS_k C.1)]
  by_cases cm : w < (qL a 5 0).toNat
  · rw [if_pos cm] at y1
    rw [if_neg (by omega)]
    try simp only [j_0, j_1, j_2, j_3, j_4, j_5, j_6, j_7, j_8, j_9, j_10, j_11, j_12, j_13, j_14, j_15, j_16, j_17, j_18, j_19, j_20, j_21, j_22, j_23, j_24, j_25, j_26, j_27, j_28, j_29, j_30, j_31, j_32, j_33, j_34, j_35, j_36, j_37, j_38, j_39, j_40, j_41, j_42, j_43, j_44, j_45, j_46, j_47, j_48, j_49, j_50, j_51, j_52, j_57, j_59, j_63, j_74, j_75, j_93, j_97, j_99, j_100, j_122, j_200, j_255, j_300, j_465, j_496, j_900, j_999, j_1000, j_65536, j_65537, j_99999, j_252645135, j_858993459, j_1431655765, k_0, k_1, k_27, k_32, k_74, k_75, k_100, k_1000, k_65537]
    simp (disch := first | with_reducible assumption | omega | trivial) only [↓bn_s1, ↓bd_s1, ↓ei_l1, ↓ei_r1, ↓bn_if, ↓ilt_1, ↓ilt_0, ↓ieq_1, ↓ieq_0, bn_s1, bd_s1, ei_l1, ei_r1, J_add, J_sub, J_mul, J_neg, J_lt, J_le, J_eq, dv_J, rm_J, if_pos, if_neg, ↓reduceIte, bitJ, shlJ, orJ, j_0, j_1, j_2, j_3, j_4, j_5, j_6, j_7, j_8, j_9, j_10, j_11, j_12, j_13, j_14, j_15, j_16, j_17, j_18, j_19, j_20, j_21, j_22, j_23, j_24, j_25, j_26, j_27, j_28, j_29, j_30, j_31, j_32, j_33, j_34, j_35, j_36, j_37, j_38, j_39, j_40, j_41, j_42, j_43, j_44, j_45, j_46, j_47, j_48, j_49, j_50, j_51, j_52, j_57, j_59, j_63, j_74, j_75, j_93, j_97, j_99, j_100, j_122, j_200, j_255, j_300, j_465, j_496, j_900, j_999, j_1000, j_65536, j_65537, j_99999, j_252645135, j_858993459, j_1431655765, k_0, k_1, k_27, k_32, k_74, k_75, k_100, k_1000, k_65537, ↓bd_e (e1), e1, y1]
  · rw [if_neg cm] at y1
    rw [if_pos (by omega)]
    try simp only [j_0, j_1, j_2, j_3, j_4, j_5, j_6, j_7, j_8, j_9, j_10, j_11, j_12, j_13, j_14, j_15, j_16, j_17, j_18, j_19, j_20, j_21, j_22, j_23, j_24, j_25, j_26, j_27, j_28, j_29, j_30, j_31, j_32, j_33, j_34, j_35, j_36, j_37, j_38, j_39, j_40, j_41, j_42, j_43, j_44, j_45, j_46, j_47, j_48, j_49, j_50, j_51, j_52, j_57, j_59, j_63, j_74, j_75, j_93, j_97, j_99, j_100, j_122, j_200, j_255, j_300, j_465, j_496, j_900, j_999, j_1000, j_65536, j_65537, j_99999, j_252645135, j_858993459, j_1431655765, k_0, k_1, k_27, k_32, k_74, k_75, k_100, k_1000, k_65537]
    simp (disch := first | with_reducible assumption | omega | trivial) only [↓bn_s1, ↓bd_s1, ↓ei_l1, ↓ei_r1, ↓bn_if, ↓ilt_1, ↓ilt_0, ↓ieq_1, ↓ieq_0, bn_s1, bd_s1, ei_l1, ei_r1, J_add, J_sub, J_mul, J_neg, J_lt, J_le, J_eq, dv_J, rm_J, if_pos, if_neg, ↓reduceIte, bitJ, shlJ, orJ, j_0, j_1, j_2, j_3, j_4, j_5, j_6, j_7, j_8, j_9, j_10, j_11, j_12, j_13, j_14, j_15, j_16, j_17, j_18, j_19, j_20, j_21, j_22, j_23, j_24, j_25, j_26, j_27, j_28, j_29, j_30, j_31, j_32, j_33, j_34, j_35, j_36, j_37, j_38, j_39, j_40, j_41, j_42, j_43, j_44, j_45, j_46, j_47, j_48, j_49, j_50, j_51, j_52, j_57, j_59, j_63, j_74, j_75, j_93, j_97, j_99, j_100, j_122, j_200, j_255, j_300, j_465, j_496, j_900, j_999, j_1000, j_65536, j_65537, j_99999, j_252645135, j_858993459, j_1431655765, k_0, k_1, k_27, k_32, k_74, k_75, k_100, k_1000, k_65537, ↓bd_e (e1), e1, y1]
/-- the best plan in rows 96, 97 -/
def BD (L : Lk) (B : Bs) (h : Hp) : Prop := ∀ x q, B = some (x, q) → 0 ≤ x ∧ x ≤ 200 ∧ ∀ d : Nat, (d : Int) < L 4 0 → ia h 96 d = (dyo (hn L) (q d) : Nat) ∧ ia h 97 d = (if q d = 0 then (-2 : Int) else (hmo (hn L) (q d) : Int))
def wc (B : Bs) : Int := match B with
  | none => -2
  | some (x, _) => x
def rpB (l0 : Nat) (l1 l2 : Int32) (s : Int32 × Int32) (x4 : Int32) (h5 : Hp) : Option (((Int32 × Int32) ⊕ (Int32)) × Hp) :=
      (bn (F_md_drinksAll l0 h5) fun h7 =>
      bn (F_md_underNow l0 h7) fun x9 =>
      if x9 = (0 : Int32) then
        (if l2 = (0 : Int32) then
          (bd (lp (B_md_plans_71 l0 l1 l2 x4 s.2) FU (0 : Int32) h7) fun x30 h32 =>
          some (.inl (x4, s.2 + (1 : Int32)), h32))
        else
          (bd (F_md_allDry l0 h7) fun x34 h35 =>
          if x34 = (0 : Int32) then
            (some (.inl (s.1, s.2 + (1 : Int32)), h35))
          else
            (bd (lp (B_md_plans_71 l0 l1 l2 x4 s.2) FU (0 : Int32) h35) fun x56 h58 =>
            some (.inl (x4, s.2 + (1 : Int32)), h58))))
      else
        (some (.inl (s.1, s.2 + (1 : Int32)), h7)))
theorem P6_eq (l0 : Nat) (l1 l2 : Int32) (s : Int32 × Int32) (h : Hp) : B_md_plans_6 l0 l1 l2 s h = bn (F_md_plansAll l0 l1 h) fun x2 => if s.2 < x2 then (bd (F_md_laysPlan l0 s.2 l1 h) fun x4 h5 => if s.1 = (-2 : Int32) then rpB l0 l1 l2 s x4 h5 else (if x4 < s.1 then rpB l0 l1 l2 s x4 h5 else some (.inl (s.1, s.2 + (1 : Int32)), h5))) else some (.inr s.1, h) := rfl
theorem D_try {a : Ab} {h : Hp} {n p : Nat} {e x1 : Int} (HA : AW a) (H : RQ a h) (c : ¬ qL a 1 0 = 0) (n1 : 1 ≤ n) (n4 : n ≤ 4) (he : e = 0 ∨ e = 1) (Q : QH (qL a) (qcd (1 + n * hn (qL a)) (qL a 4 0).toNat p) 0 h) (u : Int) (ub : 0 ≤ u ∧ u ≤ 200) : ∃ h', Qr h h' ∧ (fzb a n e p = true → rpB 88 (J n) (J e) (J x1, J p) (J u) h = some (.inl (J u, J ((p : Int) + 1)), h') ∧ BD (qL a) (some (u, qcd (1 + n * hn (qL a)) (qL a 4 0).toNat p)) h') ∧ (¬ fzb a n e p = true → rpB 88 (J n) (J e) (J x1, J p) (J u) h = some (.inl (J x1, J ((p : Int) + 1)), h') ∧ ∀ y, y = 96 ∨ y = 97 → ∀ z, ia h' y z = ia h y z) := by
  have HL := HA.1
  have b1 := LW_h HL
  have b4 := LW_d HL
  have hne := hn_e HL
  obtain ⟨b, C⟩ := lkq_1 H c
  have sw := sw_Sdc HA c n4 (qL a 4 0).toNat p (by omega)
  obtain ⟨h1, e1, f1, x1'⟩ := D_drinksAll HA H c n1 n4 Q
  have C1 := RC_fm f1 (by omega) C
  have eu := D_underNow HL C1 x1' (sw_stk (by omega) sw)
  have u32 := und_32 (hgt (qL a) (Sdc (qL a) (1 + n * hn (qL a)) (qS a) (qL a 4 0).toNat p)) (n := hn (qL a)) (by omega)
  have Q1 : QH (qL a) (qcd (1 + n * hn (qL a)) (qL a 4 0).toNat p) 0 h1 := fun d d0 d1 => by rw [fm_ia f1 (by omega), fm_ia f1 (by omega)]; exact Q d d0 d1
  -- the copy
  have cpy71 : ∀ h2, Fm 91 92 h h2 → ∃ y h3, lp (B_md_plans_71 88 (J n) (J e) (J u) (J p)) FU (J 0) h2 = some (y, h3) ∧ Qr h h3 ∧ BD (qL a) (some (u, qcd (1 + n * hn (qL a)) (qL a 4 0).toNat p)) h3 := by
    intro h2 f2
    have C2 := RC_fm f2 (by omega) C
    have Q2 : QH (qL a) (qcd (1 + n * hn (qL a)) (qL a 4 0).toNat p) 0 h2 := fun d d0 d1 => by rw [fm_ia f2 (by omega), fm_ia f2 (by omega)]; exact Q d d0 d1
    obtain ⟨y, h3, e3, f3, x3⟩ := lp_for (b := B_md_plans_71 88 (J n) (J e) (J u) (J p)) (f := FU) (s := J 0) (h := h2) (fun i s h' => s = J i ∧ Fm 96 98 h2 h' ∧ ∀ d : Nat, d < i → ia h' 96 d = ia h2 94 d ∧ ia h' 97 d = ia h2 95 d) (fun _ h' => Fm 96 98 h2 h' ∧ ∀ d : Nat, (d : Int) < qL a 4 0 → ia h' 96 d = ia h2 94 d ∧ ia h' 97 d = ia h2 95 d) (qL a 4 0).toNat (by unfold FU; omega) ⟨rfl, fm_rf _ _ _, fun d hd => by omega⟩ (fun i s h3 hi hI => by
        obtain ⟨rfl, f3, x3⟩ := hI
        have C3 := RC_fm f3 (by omega) C2
        have v94 : ia h3 94 i = ia h2 94 i := by rw [fm_ia f3 (by omega)]
        have r94 := ia_rg h2 94 i
        have r95 := ia_rg h2 95 i
        have n96 : (iA h3 96).length = 3 := MS_n23 C3.1
        obtain ⟨h4, hh4⟩ : ∃ h4, h4 = wA h3 96 i (ia h2 94 i) := ⟨_, rfl⟩
        have f4 : Fm 96 98 h3 h4 := by rw [hh4]; exact fm_wA (by omega) (by omega)
        have C4 := RC_fm f4 (by omega) C3
        have v95 : ia h4 95 i = ia h2 95 i := by rw [fm_ia f4 (by omega), fm_ia f3 (by omega)]
        have n97 : (iA h4 97).length = 3 := MS_n24 C4.1
        refine ⟨J (i + 1 : Nat), wA h4 97 i (ia h2 95 i), ?_, rfl, fm_tr f3 (fm_tr f4 (fm_wA (by omega) (by omega))), fun d hd => ⟨?_, ?_⟩⟩
        · unfold B_md_plans_71
          try simp only [j_0, j_1, j_2, j_3, j_4, j_5, j_6, j_7, j_8, j_9, j_10, j_11, j_12, j_13, j_14, j_15, j_16, j_17, j_18, j_19, j_20, j_21, j_22, j_23, j_24, j_25, j_26, j_27, j_28, j_29, j_30, j_31, j_32, j_33, j_34, j_35, j_36, j_37, j_38, j_39, j_40, j_41, j_42, j_43, j_44, j_45, j_46, j_47, j_48, j_49, j_50, j_51, j_52, j_57, j_59, j_63, j_74, j_75, j_93, j_97, j_99, j_100, j_122, j_200, j_255, j_300, j_465, j_496, j_900, j_999, j_1000, j_65536, j_65537, j_99999, j_252645135, j_858993459, j_1431655765, k_0, k_1, k_27, k_32, k_74, k_75, k_100, k_1000, k_65537]
          simp (disch := first | with_reducible assumption | omega | trivial) only [↓bn_s1, ↓bd_s1, ↓ei_l1, ↓ei_r1, ↓bn_if, ↓ilt_1, ↓ilt_0, ↓ieq_1, ↓ieq_0, bn_s1, bd_s1, ei_l1, ei_r1, J_add, J_sub, J_mul, J_neg, J_lt, J_le, J_eq, dv_J, rm_J, if_pos, if_neg, ↓reduceIte, bitJ, shlJ, orJ, j_0, j_1, j_2, j_3, j_4, j_5, j_6, j_7, j_8, j_9, j_10, j_11, j_12, j_13, j_14, j_15, j_16, j_17, j_18, j_19, j_20, j_21, j_22, j_23, j_24, j_25, j_26, j_27, j_28, j_29, j_30, j_31, j_32, j_33, j_34, j_35, j_36, j_37, j_38, j_39, j_40, j_41, j_42, j_43, j_44, j_45, j_46, j_47, j_48, j_49, j_50, j_51, j_52, j_57, j_59, j_63, j_74, j_75, j_93, j_97, j_99, j_100, j_122, j_200, j_255, j_300, j_465, j_496, j_900, j_999, j_1000, j_65536, j_65537, j_99999, j_252645135, j_858993459, j_1431655765, k_0, k_1, k_27, k_32, k_74, k_75, k_100, k_1000, k_65537, cl_r C3, ↓cl_r_b C3, cl_q C3, ↓cl_q_b C3, ci_0 C3, ↓ci_0_b C3, ci_1 C3, ↓ci_1_b C3, ci_2 C3, ↓ci_2_b C3, ci_3 C3, ↓ci_3_b C3, ci_4 C3, ↓ci_4_b C3, ci_5 C3, ↓ci_5_b C3, ci_6 C3, ↓ci_6_b C3, ci_7 C3, ↓ci_7_b C3, cr_9 C3, ↓cr_9_b C3, cr_10 C3, ↓cr_10_b C3, cr_11 C3, ↓cr_11_b C3, cr_13 C3, ↓cr_13_b C3, cr_14 C3, ↓cr_14_b C3, cr_15 C3, ↓cr_15_b C3, cr_16 C3, ↓cr_16_b C3, cr_17 C3, ↓cr_17_b C3, cr_18 C3, ↓cr_18_b C3, cr_19 C3, ↓cr_19_b C3, cr_20 C3, ↓cr_20_b C3, cr_21 C3, ↓cr_21_b C3, cr_22 C3, ↓cr_22_b C3, cr_23 C3, ↓cr_23_b C3, cr_24 C3, ↓cr_24_b C3, cr_25 C3, ↓cr_25_b C3, cr_26 C3, ↓cr_26_b C3, ca_9 HL C3, ↓ca_9_b HL C3, ca_10 HL C3, ↓ca_10_b HL C3, ca_11 HL C3, ↓ca_11_b HL C3, ca_13 HL C3, ↓ca_13_b HL C3, ca_14 HL C3, ↓ca_14_b HL C3, ca_15 HL C3, ↓ca_15_b HL C3, ca_16 HL C3, ↓ca_16_b HL C3, ca_17 HL C3, ↓ca_17_b HL C3, ca_18 HL C3, ↓ca_18_b HL C3, ca_19 HL C3, ↓ca_19_b HL C3, ca_20 HL C3, ↓ca_20_b HL C3, ca_21 HL C3, ↓ca_21_b HL C3, ca_22 HL C3, ↓ca_22_b HL C3, ca_23 HL C3, ↓ca_23_b HL C3, ca_24 HL C3, ↓ca_24_b HL C3, ca_25 HL C3, ↓ca_25_b HL C3, ca_26 HL C3, ↓ca_26_b HL C3, m_i C3.1, ↓m_i_b C3.1, m_p C3.1, ↓m_p_b C3.1, m_l C3.1, ↓m_l_b C3.1, m_pl C3.1, ↓m_pl_b C3.1, mr_15 C3.1, ↓mr_15_b C3.1, mr_16 C3.1, ↓mr_16_b C3.1, mr_17 C3.1, ↓mr_17_b C3.1, mr_18 C3.1, ↓mr_18_b C3.1, mr_21 C3.1, ↓mr_21_b C3.1, mr_22 C3.1, ↓mr_22_b C3.1, mr_23 C3.1, ↓mr_23_b C3.1, mr_24 C3.1, ↓mr_24_b C3.1, mr_25 C3.1, ↓mr_25_b C3.1, mr_30 C3.1, ↓mr_30_b C3.1, mr_31 C3.1, ↓mr_31_b C3.1, m90a C3.1, ↓m90a_b C3.1, m90s C3.1, ↓m90s_b C3.1, m91a C3.1, ↓m91a_b C3.1, m91s C3.1, ↓m91s_b C3.1, m92a C3.1, ↓m92a_b C3.1, m92s C3.1, ↓m92s_b C3.1, m93a C3.1, ↓m93a_b C3.1, m93s C3.1, ↓m93s_b C3.1, m94a C3.1, ↓m94a_b C3.1, m94s C3.1, ↓m94s_b C3.1, m95a C3.1, ↓m95a_b C3.1, m95s C3.1, ↓m95s_b C3.1, m96a C3.1, ↓m96a_b C3.1, m96s C3.1, ↓m96s_b C3.1, m97a C3.1, ↓m97a_b C3.1, m97s C3.1, ↓m97s_b C3.1, m98a C3.1, ↓m98a_b C3.1, m98s C3.1, ↓m98s_b C3.1, m99a C3.1, ↓m99a_b C3.1, m99s C3.1, ↓m99s_b C3.1, m100a C3.1, ↓m100a_b C3.1, m100s C3.1, ↓m100s_b C3.1, v94, ← hh4, cl_r C4, ↓cl_r_b C4, cl_q C4, ↓cl_q_b C4, ci_0 C4, ↓ci_0_b C4, ci_1 C4, ↓ci_1_b C4, ci_2 C4, ↓ci_2_b C4, ci_3 C4, ↓ci_3_b C4, ci_4 C4, ↓ci_4_b C4, ci_5 C4, ↓ci_5_b C4, ci_6 C4, ↓ci_6_b C4, ci_7 C4, ↓ci_7_b C4, cr_9 C4, ↓cr_9_b C4, cr_10 C4, ↓cr_10_b C4, cr_11 C4, ↓cr_11_b C4, cr_13 C4, ↓cr_13_b C4, cr_14 C4, ↓cr_14_b C4, cr_15 C4, ↓cr_15_b C4, cr_16 C4, ↓cr_16_b C4, cr_17 C4, ↓cr_17_b C4, cr_18 C4, ↓cr_18_b C4, cr_19 C4, ↓cr_19_b C4, cr_20 C4, ↓cr_20_b C4, cr_21 C4, ↓cr_21_b C4, cr_22 C4, ↓cr_22_b C4, cr_23 C4, ↓cr_23_b C4, cr_24 C4, ↓cr_24_b C4, cr_25 C4, ↓cr_25_b C4, cr_26 C4, ↓cr_26_b C4, ca_9 HL C4, ↓ca_9_b HL C4, ca_10 HL C4, ↓ca_10_b HL C4, ca_11 HL C4, ↓ca_11_b HL C4, ca_13 HL C4, ↓ca_13_b HL C4, ca_14 HL C4, ↓ca_14_b HL C4, ca_15 HL C4, ↓ca_15_b HL C4, ca_16 HL C4, ↓ca_16_b HL C4, ca_17 HL C4, ↓ca_17_b HL C4, ca_18 HL C4, ↓ca_18_b HL C4, ca_19 HL C4, ↓ca_19_b HL C4, ca_20 HL C4, ↓ca_20_b HL C4, ca_21 HL C4, ↓ca_21_b HL C4, ca_22 HL C4, ↓ca_22_b HL C4, ca_23 HL C4, ↓ca_23_b HL C4, ca_24 HL C4, ↓ca_24_b HL C4, ca_25 HL C4, ↓ca_25_b HL C4, ca_26 HL C4, ↓ca_26_b HL C4, m_i C4.1, ↓m_i_b C4.1, m_p C4.1, ↓m_p_b C4.1, m_l C4.1, ↓m_l_b C4.1, m_pl C4.1, ↓m_pl_b C4.1, mr_15 C4.1, ↓mr_15_b C4.1, mr_16 C4.1, ↓mr_16_b C4.1, mr_17 C4.1, ↓mr_17_b C4.1, mr_18 C4.1, ↓mr_18_b C4.1, mr_21 C4.1, ↓mr_21_b C4.1, mr_22 C4.1, ↓mr_22_b C4.1, mr_23 C4.1, ↓mr_23_b C4.1, mr_24 C4.1, ↓mr_24_b C4.1, mr_25 C4.1, ↓mr_25_b C4.1, mr_30 C4.1, ↓mr_30_b C4.1, mr_31 C4.1, ↓mr_31_b C4.1, m90a C4.1, ↓m90a_b C4.1, m90s C4.1, ↓m90s_b C4.1, m91a C4.1, ↓m91a_b C4.1, m91s C4.1, ↓m91s_b C4.1, m92a C4.1, ↓m92a_b C4.1, m92s C4.1, ↓m92s_b C4.1, m93a C4.1, ↓m93a_b C4.1, m93s C4.1, ↓m93s_b C4.1, m94a C4.1, ↓m94a_b C4.1, m94s C4.1, ↓m94s_b C4.1, m95a C4.1, ↓m95a_b C4.1, m95s C4.1, ↓m95s_b C4.1, m96a C4.1, ↓m96a_b C4.1, m96s C4.1, ↓m96s_b C4.1, m97a C4.1, ↓m97a_b C4.1, m97s C4.1, ↓m97s_b C4.1, m98a C4.1, ↓m98a_b C4.1, m98s C4.1, ↓m98s_b C4.1, m99a C4.1, ↓m99a_b C4.1, m99s C4.1, ↓m99s_b C4.1, m100a C4.1, ↓m100a_b C4.1, m100s C4.1, ↓m100s_b C4.1, v95]
          rfl
        · rw [ia_wA (by omega), hh4, ia_if (by omega) (by omega) (by omega) r94.1 r94.2]
          by_cases ee : (d : Int) = i
          · rw [if_pos ee, ee]
          · rw [if_neg ee]; exact (x3 d (by omega)).1
        · rw [ia_if (by omega) (by omega) (by omega) r95.1 r95.2]
          by_cases ee : (d : Int) = i
          · rw [if_pos ee, ee]
          · rw [if_neg ee, hh4, ia_wA (by omega)]; exact (x3 d (by omega)).2) (fun s h3 hI => by
        obtain ⟨rfl, f3, x3⟩ := hI
        have C3 := RC_fm f3 (by omega) C2
        refine ⟨(), h3, ?_, f3, fun d hd => x3 d (by omega)⟩
        unfold B_md_plans_71
        try simp only [j_0, j_1, j_2, j_3, j_4, j_5, j_6, j_7, j_8, j_9, j_10, j_11, j_12, j_13, j_14, j_15, j_16, j_17, j_18, j_19, j_20, j_21, j_22, j_23, j_24, j_25, j_26, j_27, j_28, j_29, j_30, j_31, j_32, j_33, j_34, j_35, j_36, j_37, j_38, j_39, j_40, j_41, j_42, j_43, j_44, j_45, j_46, j_47, j_48, j_49, j_50, j_51, j_52, j_57, j_59, j_63, j_74, j_75, j_93, j_97, j_99, j_100, j_122, j_200, j_255, j_300, j_465, j_496, j_900, j_999, j_1000, j_65536, j_65537, j_99999, j_252645135, j_858993459, j_1431655765, k_0, k_1, k_27, k_32, k_74, k_75, k_100, k_1000, k_65537]
        simp (disch := first | with_reducible assumption | omega | trivial) only [↓bn_s1, ↓bd_s1, ↓ei_l1, ↓ei_r1, ↓bn_if, ↓ilt_1, ↓ilt_0, ↓ieq_1, ↓ieq_0, bn_s1, bd_s1, ei_l1, ei_r1, J_add, J_sub, J_mul, J_neg, J_lt, J_le, J_eq, dv_J, rm_J, if_pos, if_neg, ↓reduceIte, bitJ, shlJ, orJ, j_0, j_1, j_2, j_3, j_4, j_5, j_6, j_7, j_8, j_9, j_10, j_11, j_12, j_13, j_14, j_15, j_16, j_17, j_18, j_19, j_20, j_21, j_22, j_23, j_24, j_25, j_26, j_27, j_28, j_29, j_30, j_31, j_32, j_33, j_34, j_35, j_36, j_37, j_38, j_39, j_40, j_41, j_42, j_43, j_44, j_45, j_46, j_47, j_48, j_49, j_50, j_51, j_52, j_57, j_59, j_63, j_74, j_75, j_93, j_97, j_99, j_100, j_122, j_200, j_255, j_300, j_465, j_496, j_900, j_999, j_1000, j_65536, j_65537, j_99999, j_252645135, j_858993459, j_1431655765, k_0, k_1, k_27, k_32, k_74, k_75, k_100, k_1000, k_65537, cl_r C3, ↓cl_r_b C3, cl_q C3, ↓cl_q_b C3, ci_0 C3, ↓ci_0_b C3, ci_1 C3, ↓ci_1_b C3, ci_2 C3, ↓ci_2_b C3, ci_3 C3, ↓ci_3_b C3, ci_4 C3, ↓ci_4_b C3, ci_5 C3, ↓ci_5_b C3, ci_6 C3, ↓ci_6_b C3, ci_7 C3, ↓ci_7_b C3, cr_9 C3, ↓cr_9_b C3, cr_10 C3, ↓cr_10_b C3, cr_11 C3, ↓cr_11_b C3, cr_13 C3, ↓cr_13_b C3, cr_14 C3, ↓cr_14_b C3, cr_15 C3, ↓cr_15_b C3, cr_16 C3, ↓cr_16_b C3, cr_17 C3, ↓cr_17_b C3, cr_18 C3, ↓cr_18_b C3, cr_19 C3, ↓cr_19_b C3, cr_20 C3, ↓cr_20_b C3, cr_21 C3, ↓cr_21_b C3, cr_22 C3, ↓cr_22_b C3, cr_23 C3, ↓cr_23_b C3, cr_24 C3, ↓cr_24_b C3, cr_25 C3, ↓cr_25_b C3, cr_26 C3, ↓cr_26_b C3, ca_9 HL C3, ↓ca_9_b HL C3, ca_10 HL C3, ↓ca_10_b HL C3, ca_11 HL C3, ↓ca_11_b HL C3, ca_13 HL C3, ↓ca_13_b HL C3, ca_14 HL C3, ↓ca_14_b HL C3, ca_15 HL C3, ↓ca_15_b HL C3, ca_16 HL C3, ↓ca_16_b HL C3, ca_17 HL C3, ↓ca_17_b HL C3, ca_18 HL C3, ↓ca_18_b HL C3, ca_19 HL C3, ↓ca_19_b HL C3, ca_20 HL C3, ↓ca_20_b HL C3, ca_21 HL C3, ↓ca_21_b HL C3, ca_22 HL C3, ↓ca_22_b HL C3, ca_23 HL C3, ↓ca_23_b HL C3, ca_24 HL C3, ↓ca_24_b HL C3, ca_25 HL C3, ↓ca_25_b HL C3, ca_26 HL C3, ↓ca_26_b HL C3, m_i C3.1, ↓m_i_b C3.1, m_p C3.1, ↓m_p_b C3.1, m_l C3.1, ↓m_l_b C3.1, m_pl C3.1, ↓m_pl_b C3.1, mr_15 C3.1, ↓mr_15_b C3.1, mr_16 C3.1, ↓mr_16_b C3.1, mr_17 C3.1, ↓mr_17_b C3.1, mr_18 C3.1, ↓mr_18_b C3.1, mr_21 C3.1, ↓mr_21_b C3.1, mr_22 C3.1, ↓mr_22_b C3.1, mr_23 C3.1, ↓mr_23_b C3.1, mr_24 C3.1, ↓mr_24_b C3.1, mr_25 C3.1, ↓mr_25_b C3.1, mr_30 C3.1, ↓mr_30_b C3.1, mr_31 C3.1, ↓mr_31_b C3.1])
    refine ⟨y, h3, e3, qr_tr (qr_91 f2) (qr_94 f3 (by omega) (by omega)), fun x q hx => ?_⟩
    cases hx
    refine ⟨ub.1, ub.2, fun d hd => ?_⟩
    have z := x3 d hd
    have q2 := Q2 d (by omega) hd
    rw [z.1, z.2]
    exact q2
  unfold fzb rpB
  by_cases z : und (hgt (qL a) (Sdc (qL a) (1 + n * hn (qL a)) (qS a) (qL a 4 0).toNat p)) (hn (qL a)) = 0
  · rw [z] at eu
    replace eu : F_md_underNow 88 h1 = some (J 0) := eu
    rw [decide_eq_true z, Bool.true_and]
    rcases he with e0 | e0
    · subst e0
      obtain ⟨y, h3, e3, q3, B3⟩ := cpy71 h1 f1
      refine ⟨h3, q3, fun _ => ⟨?_, B3⟩, fun x => absurd (by rw [decide_eq_true rfl, Bool.true_or]) x⟩
      try simp only [j_0, j_1, j_2, j_3, j_4, j_5, j_6, j_7, j_8, j_9, j_10, j_11, j_12, j_13, j_14, j_15, j_16, j_17, j_18, j_19, j_20, j_21, j_22, j_23, j_24, j_25, j_26, j_27, j_28, j_29, j_30, j_31, j_32, j_33, j_34, j_35, j_36, j_37, j_38, j_39, j_40, j_41, j_42, j_43, j_44, j_45, j_46, j_47, j_48, j_49, j_50, j_51, j_52, j_57, j_59, j_63, j_74, j_75, j_93, j_97, j_99, j_100, j_122, j_200, j_255, j_300, j_465, j_496, j_900, j_999, j_1000, j_65536, j_65537, j_99999, j_252645135, j_858993459, j_1431655765, k_0, k_1, k_27, k_32, k_74, k_75, k_100, k_1000, k_65537]
      simp (disch := first | with_reducible assumption | omega | trivial) only [↓bn_s1, ↓bd_s1, ↓ei_l1, ↓ei_r1, ↓bn_if, ↓ilt_1, ↓ilt_0, ↓ieq_1, ↓ieq_0, bn_s1, bd_s1, ei_l1, ei_r1, J_add, J_sub, J_mul, J_neg, J_lt, J_le, J_eq, dv_J, rm_J, if_pos, if_neg, ↓reduceIte, bitJ, shlJ, orJ, j_0, j_1, j_2, j_3, j_4, j_5, j_6, j_7, j_8, j_9, j_10, j_11, j_12, j_13, j_14, j_15, j_16, j_17, j_18, j_19, j_20, j_21, j_22, j_23, j_24, j_25, j_26, j_27, j_28, j_29, j_30, j_31, j_32, j_33, j_34, j_35, j_36, j_37, j_38, j_39, j_40, j_41, j_42, j_43, j_44, j_45, j_46, j_47, j_48, j_49, j_50, j_51, j_52, j_57, j_59, j_63, j_74, j_75, j_93, j_97, j_99, j_100, j_122, j_200, j_255, j_300, j_465, j_496, j_900, j_999, j_1000, j_65536, j_65537, j_99999, j_252645135, j_858993459, j_1431655765, k_0, k_1, k_27, k_32, k_74, k_75, k_100, k_1000, k_65537, ↓bn_e (e1), e1, ↓bn_e (eu), eu, ↓bd_e (e3), e3]
    · subst e0
      obtain ⟨h2, e2, f2⟩ := D_allDry HA (RQ_qr (qr_91 f1) H) c n1 n4 Q1
      rw [decide_eq_false (show ¬ (1 : Int) = 0 by omega), Bool.false_or]
      by_cases ad : fsi (fun f => decide (hgt (qL a) (sfn (qL a) (Sdc (qL a) (1 + n * hn (qL a)) (qS a) (qL a 4 0).toNat p) (qL a 20 f).toNat) (qL a 19 f) < qL a 21 f)) (qL a 5 0).toNat = (qL a 5 0).toNat
      · rw [if_pos ad] at e2
        rw [decide_eq_true ad]
        obtain ⟨y, h3, e3, q3, B3⟩ := cpy71 h2 (fm_tr f1 f2)
        refine ⟨h3, q3, fun _ => ⟨?_, B3⟩, fun x => absurd rfl x⟩
        try simp only [j_0, j_1, j_2, j_3, j_4, j_5, j_6, j_7, j_8, j_9, j_10, j_11, j_12, j_13, j_14, j_15, j_16, j_17, j_18, j_19, j_20, j_21, j_22, j_23, j_24, j_25, j_26, j_27, j_28, j_29, j_30, j_31, j_32, j_33, j_34, j_35, j_36, j_37, j_38, j_39, j_40, j_41, j_42, j_43, j_44, j_45, j_46, j_47, j_48, j_49, j_50, j_51, j_52, j_57, j_59, j_63, j_74, j_75, j_93, j_97, j_99, j_100, j_122, j_200, j_255, j_300, j_465, j_496, j_900, j_999, j_1000, j_65536, j_65537, j_99999, j_252645135, j_858993459, j_1431655765, k_0, k_1, k_27, k_32, k_74, k_75, k_100, k_1000, k_65537]
        simp (disch := first | with_reducible assumption | omega | trivial) only [↓bn_s1, ↓bd_s1, ↓ei_l1, ↓ei_r1, ↓bn_if, ↓ilt_1, ↓ilt_0, ↓ieq_1, ↓ieq_0, bn_s1, bd_s1, ei_l1, ei_r1, J_add, J_sub, J_mul, J_neg, J_lt, J_le, J_eq, dv_J, rm_J, if_pos, if_neg, ↓reduceIte, bitJ, shlJ, orJ, j_0, j_1, j_2, j_3, j_4, j_5, j_6, j_7, j_8, j_9, j_10, j_11, j_12, j_13, j_14, j_15, j_16, j_17, j_18, j_19, j_20, j_21, j_22, j_23, j_24, j_25, j_26, j_27, j_28, j_29, j_30, j_31, j_32, j_33, j_34, j_35, j_36, j_37, j_38, j_39, j_40, j_41, j_42, j_43, j_44, j_45, j_46, j_47, j_48, j_49, j_50, j_51, j_52, j_57, j_59, j_63, j_74, j_75, j_93, j_97, j_99, j_100, j_122, j_200, j_255, j_300, j_465, j_496, j_900, j_999, j_1000, j_65536, j_65537, j_99999, j_252645135, j_858993459, j_1431655765, k_0, k_1, k_27, k_32, k_74, k_75, k_100, k_1000, k_65537, ↓bn_e (e1), e1, ↓bn_e (eu), eu, ↓bd_e (e2), e2, ↓bd_e (e3), e3]
      · rw [if_neg ad] at e2
        rw [decide_eq_false ad]
        refine ⟨h2, qr_91 (fm_tr f1 f2), fun x => (by cases x), fun _ => ⟨?_, fun y hy w => by rw [fm_ia f2 (by omega), fm_ia f1 (by omega)]⟩⟩
        try simp only [j_0, j_1, j_2, j_3, j_4, j_5, j_6, j_7, j_8, j_9, j_10, j_11, j_12, j_13, j_14, j_15, j_16, j_17, j_18, j_19, j_20, j_21, j_22, j_23, j_24, j_25, j_26, j_27, j_28, j_29, j_30, j_31, j_32, j_33, j_34, j_35, j_36, j_37, j_38, j_39, j_40, j_41, j_42, j_43, j_44, j_45, j_46, j_47, j_48, j_49, j_50, j_51, j_52, j_57, j_59, j_63, j_74, j_75, j_93, j_97, j_99, j_100, j_122, j_200, j_255, j_300, j_465, j_496, j_900, j_999, j_1000, j_65536, j_65537, j_99999, j_252645135, j_858993459, j_1431655765, k_0, k_1, k_27, k_32, k_74, k_75, k_100, k_1000, k_65537]
        simp (disch := first | with_reducible assumption | omega | trivial) only [↓bn_s1, ↓bd_s1, ↓ei_l1, ↓ei_r1, ↓bn_if, ↓ilt_1, ↓ilt_0, ↓ieq_1, ↓ieq_0, bn_s1, bd_s1, ei_l1, ei_r1, J_add, J_sub, J_mul, J_neg, J_lt, J_le, J_eq, dv_J, rm_J, if_pos, if_neg, ↓reduceIte, bitJ, shlJ, orJ, j_0, j_1, j_2, j_3, j_4, j_5, j_6, j_7, j_8, j_9, j_10, j_11, j_12, j_13, j_14, j_15, j_16, j_17, j_18, j_19, j_20, j_21, j_22, j_23, j_24, j_25, j_26, j_27, j_28, j_29, j_30, j_31, j_32, j_33, j_34, j_35, j_36, j_37, j_38, j_39, j_40, j_41, j_42, j_43, j_44, j_45, j_46, j_47, j_48, j_49, j_50, j_51, j_52, j_57, j_59, j_63, j_74, j_75, j_93, j_97, j_99, j_100, j_122, j_200, j_255, j_300, j_465, j_496, j_900, j_999, j_1000, j_65536, j_65537, j_99999, j_252645135, j_858993459, j_1431655765, k_0, k_1, k_27, k_32, k_74, k_75, k_100, k_1000, k_65537, ↓bn_e (e1), e1, ↓bn_e (eu), eu, ↓bd_e (e2), e2]
  · rw [decide_eq_false z, Bool.false_and]
    refine ⟨h1, qr_91 f1, fun x => (by cases x), fun _ => ⟨?_, fun y hy w => by rw [fm_ia f1 (by omega)]⟩⟩
    try simp only [j_0, j_1, j_2, j_3, j_4, j_5, j_6, j_7, j_8, j_9, j_10, j_11, j_12, j_13, j_14, j_15, j_16, j_17, j_18, j_19, j_20, j_21, j_22, j_23, j_24, j_25, j_26, j_27, j_28, j_29, j_30, j_31, j_32, j_33, j_34, j_35, j_36, j_37, j_38, j_39, j_40, j_41, j_42, j_43, j_44, j_45, j_46, j_47, j_48, j_49, j_50, j_51, j_52, j_57, j_59, j_63, j_74, j_75, j_93, j_97, j_99, j_100, j_122, j_200, j_255, j_300, j_465, j_496, j_900, j_999, j_1000, j_65536, j_65537, j_99999, j_252645135, j_858993459, j_1431655765, k_0, k_1, k_27, k_32, k_74, k_75, k_100, k_1000, k_65537]
    simp (disch := first | with_reducible assumption | omega | trivial) only [↓bn_s1, ↓bd_s1, ↓ei_l1, ↓ei_r1, ↓bn_if, ↓ilt_1, ↓ilt_0, ↓ieq_1, ↓ieq_0, bn_s1, bd_s1, ei_l1, ei_r1, J_add, J_sub, J_mul, J_neg, J_lt, J_le, J_eq, dv_J, rm_J, if_pos, if_neg, ↓reduceIte, bitJ, shlJ, orJ, j_0, j_1, j_2, j_3, j_4, j_5, j_6, j_7, j_8, j_9, j_10, j_11, j_12, j_13, j_14, j_15, j_16, j_17, j_18, j_19, j_20, j_21, j_22, j_23, j_24, j_25, j_26, j_27, j_28, j_29, j_30, j_31, j_32, j_33, j_34, j_35, j_36, j_37, j_38, j_39, j_40, j_41, j_42, j_43, j_44, j_45, j_46, j_47, j_48, j_49, j_50, j_51, j_52, j_57, j_59, j_63, j_74, j_75, j_93, j_97, j_99, j_100, j_122, j_200, j_255, j_300, j_465, j_496, j_900, j_999, j_1000, j_65536, j_65537, j_99999, j_252645135, j_858993459, j_1431655765, k_0, k_1, k_27, k_32, k_74, k_75, k_100, k_1000, k_65537, ↓bn_e (e1), e1, ↓bn_e (eu), eu]
theorem D_plans {a : Ab} {h : Hp} {n : Nat} {e : Int} (HA : AW a) (H : RQ a h) (c : ¬ qL a 1 0 = 0) (n1 : 1 ≤ n) (n4 : n ≤ 4) (he : e = 0 ∨ e = 1) : ∃ h', F_md_plans 88 (J n) (J e) h = some (J (wc (pbs a n e)), h') ∧ Qr h h' ∧ BD (qL a) (pbs a n e) h' := by
  have HL := HA.1
  have b1 := LW_h HL
  have b4 := LW_d HL
  have hne := hn_e HL
  obtain ⟨b, C⟩ := lkq_1 H c
  have ob := opb HL n1 n4 (show 1 ≤ qL a 1 0 by omega)
  have pw := pwb ob.2 (show 1 ≤ 1 + n * hn (qL a) by omega) (show (qL a 4 0).toNat ≤ 3 by omega)
  obtain ⟨N, hN⟩ : ∃ N, N = (1 + n * hn (qL a)) ^ (qL a 4 0).toNat := ⟨_, rfl⟩
  obtain ⟨g, hg⟩ : ∃ g : Nat → Bs, g = fun p => if fzb a n e p = true then some (ucd (qL a) (1 + n * hn (qL a)) (qL a 4 0).toNat p, qcd (1 + n * hn (qL a)) (qL a 4 0).toNat p) else none := ⟨_, rfl⟩
  have ep : pbs a n e = fo g N := by rw [hg, hN]; rfl
  rw [ep]
  rw [← hN] at pw
  obtain ⟨y, h1, e1, y1, q1, B1⟩ := lp_for (b := B_md_plans_6 88 (J n) (J e)) (f := FU) (s := (J (-2), J 0)) (h := h) (fun i s h' => s = (J (wc (fo g i)), J i) ∧ Qr h h' ∧ BD (qL a) (fo g i) h') (fun y h' => y = J (wc (fo g N)) ∧ Qr h h' ∧ BD (qL a) (fo g N) h') N (by unfold FU; omega) ⟨rfl, qr_rf _, fun x q hx => by cases hx⟩ (fun i s h1 hi hI => by
      obtain ⟨rfl, q1, B1⟩ := hI
      have C1 := RC_qr q1 C
      have ea := D_plansAll HL C1 (n := n)
      rw [← hN] at ea
      obtain ⟨h2, e2, f2, Q2⟩ := D_laysPlan (p := i) HL (show 1 ≤ qL a 1 0 by omega) C1 n1 n4 (by omega)
      have ub := ucr_b HL (p := i) n1 n4 (show 1 ≤ qL a 1 0 by omega) (show (((qL a 4 0).toNat : Nat) : Int) ≤ qL a 4 0 by omega) (qL a 4 0).toNat (Nat.le_refl _)
      rw [ucr_e] at ub
      obtain ⟨u, hu⟩ : ∃ u, u = ucd (qL a) (1 + n * hn (qL a)) (qL a 4 0).toNat i := ⟨_, rfl⟩
      rw [← hu] at ub e2
      have q2 := qr_tr q1 (qr_94 f2 (by omega) (by omega))
      have egi : g i = if fzb a n e i = true then some (u, qcd (1 + n * hn (qL a)) (qL a 4 0).toNat i) else none := by rw [hg, hu]
      have es : fo g (i + 1) = mg (fo g i) (g i) := rfl
      have i96 : ∀ y, y = 96 ∨ y = 97 → ∀ z, ia h2 y z = ia h1 y z := fun y hy z => by rw [fm_ia f2 (by omega)]
      obtain ⟨h3, q3, t1, t0⟩ := D_try (e := e) (x1 := wc (fo g i)) HA (RQ_qr q2 H) c n1 n4 he Q2 u (by omega)
      have keep : fo g (i + 1) = fo g i → ∀ h', (∀ y, y = 96 ∨ y = 97 → ∀ z, ia h' y z = ia h1 y z) → BD (qL a) (fo g (i + 1)) h' := fun ek h' hh x q hx => by
        rw [ek] at hx
        obtain ⟨a1, a2, a3⟩ := B1 x q hx
        exact ⟨a1, a2, fun d hd => by rw [hh 96 (by omega), hh 97 (by omega)]; exact a3 d hd⟩
      have se : J ((i : Int) + 1) = J ((i + 1 : Nat) : Int) := rfl
      have pre : ∀ r, (bd (some (J u, h2)) fun x4 h5 => if J (wc (fo g i)) = J (-2) then rpB 88 (J n) (J e) (J (wc (fo g i)), J i) x4 h5 else (if x4 < J (wc (fo g i)) then rpB 88 (J n) (J e) (J (wc (fo g i)), J i) x4 h5 else some (.inl (J (wc (fo g i)), J i + J 1), h5))) = r → B_md_plans_6 88 (J n) (J e) (J (wc (fo g i)), J i) h1 = r := fun r hr => by
        rw [P6_eq, ea, bn_s1, jm2]
        show (if J (i : Nat) < J (N : Nat) then _ else _) = r
        rw [ilt_1 (by omega) (by omega) (by omega) (by omega) (by omega), e2]
        exact hr
      cases hb : fo g i with
      | none =>
        have w0 : wc (fo g i) = -2 := by rw [hb]; rfl
        by_cases fz : fzb a n e i = true
        · rw [if_pos fz] at egi
          have en : fo g (i + 1) = some (u, qcd (1 + n * hn (qL a)) (qL a 4 0).toNat i) := by rw [es, hb, egi]; rfl
          obtain ⟨r1, r2⟩ := t1 fz
          refine ⟨(J u, J ((i : Int) + 1)), h3, by rw [← hb]; exact pre _ (by rw [bd_s1, ieq_1 w0]; exact r1), by rw [en]; rfl, qr_tr q2 q3, by rw [en]; exact r2⟩
        · rw [if_neg fz] at egi
          have en : fo g (i + 1) = fo g i := by rw [es, egi, mg_n]
          obtain ⟨r1, r2⟩ := t0 fz
          refine ⟨(J (wc (fo g i)), J ((i : Int) + 1)), h3, by rw [← hb]; exact pre _ (by rw [bd_s1, ieq_1 w0]; exact r1), by rw [en]; rfl, qr_tr q2 q3, keep en h3 (fun y hy z => by rw [r2 y hy z, i96 y hy z])⟩
      | some v =>
        have w0 : wc (fo g i) = v.1 := by rw [hb]; rfl
        obtain ⟨a1, a2, a3⟩ := B1 v.1 v.2 hb
        by_cases lt : u < v.1
        · by_cases fz : fzb a n e i = true
          · rw [if_pos fz] at egi
            have en : fo g (i + 1) = some (u, qcd (1 + n * hn (qL a)) (qL a 4 0).toNat i) := by
              rw [es, hb, egi]
              show (if u < v.1 then _ else _) = _
              rw [if_pos lt]
            obtain ⟨r1, r2⟩ := t1 fz
            refine ⟨(J u, J ((i : Int) + 1)), h3, by rw [← hb]; exact pre _ (by rw [bd_s1, ieq_0 (by omega) (by omega) (by omega) (by omega) (by omega), ilt_1 (by omega) (by omega) (by omega) (by omega) (by omega)]; exact r1), by rw [en]; rfl, qr_tr q2 q3, by rw [en]; exact r2⟩
          · rw [if_neg fz] at egi
            have en : fo g (i + 1) = fo g i := by rw [es, egi, mg_n]
            obtain ⟨r1, r2⟩ := t0 fz
            refine ⟨(J (wc (fo g i)), J ((i : Int) + 1)), h3, by rw [← hb]; exact pre _ (by rw [bd_s1, ieq_0 (by omega) (by omega) (by omega) (by omega) (by omega), ilt_1 (by omega) (by omega) (by omega) (by omega) (by omega)]; exact r1), by rw [en]; rfl, qr_tr q2 q3, keep en h3 (fun y hy z => by rw [r2 y hy z, i96 y hy z])⟩
        · have en : fo g (i + 1) = fo g i := by
            rw [es]
            refine mg_skip (fun x q hx => ⟨v.1, v.2, hb, ?_⟩)
            rw [egi] at hx
            by_cases fz : fzb a n e i = true
            · rw [if_pos fz] at hx; cases hx; omega
            · rw [if_neg fz] at hx; cases hx
          refine ⟨(J (wc (fo g i)), J ((i : Int) + 1)), h2, by rw [← hb]; exact pre _ (by rw [bd_s1, ieq_0 (by omega) (by omega) (by omega) (by omega) (by omega), ilt_0 (by omega) (by omega) (by omega) (by omega) (by omega), J_add]), by rw [en]; rfl, q2, keep en h2 i96⟩) (fun s h1 hI => by
      obtain ⟨rfl, q1, B1⟩ := hI
      have C1 := RC_qr q1 C
      have ea := D_plansAll HL C1 (n := n)
      rw [← hN] at ea
      refine ⟨_, h1, ?_, rfl, q1, B1⟩
      rw [P6_eq, ea, bn_s1]
      show (if J (N : Nat) < J (N : Nat) then _ else _) = _
      rw [ilt_0 (by omega) (by omega) (by omega) (by omega) (by omega)])
  refine ⟨h1, ?_, q1, B1⟩
  unfold F_md_plans
  rw [ck_e (MS_k C.1), jm2, j_0, e1, bd_s1, y1]
theorem wc_e (a : Ab) (n : Nat) (e : Int) : wc (pbs a n e) = w_pln a n e := rfl
theorem d_pln {a : Ab} {h : Hp} {n : Int} (HA : AW a) (H : RI a h) (hn' : rng n) : Dq (F_md_plan 88 (J n) h) h (if ¬ qL a 1 0 = 0 ∧ (1 ≤ n ∧ n ≤ 4) then w_pln a n.toNat 0 else -1) (t_2 (¬ qL a 1 0 = 0) (1 ≤ n ∧ n ≤ 4)) := by
  have H0 := RI_0 H
  obtain ⟨o, eo, eo'⟩ := pr_qL H0
  unfold F_md_plan
  refine dq_w3 (X := fun h1 => gQ h1 88 13 3) (E := fun x3 => if x3 = none then some (0 : Int32) else some (1 : Int32)) (R := fun x h1 => F_md_refusesDays 88 x (J n) h1) H (by show bn (gQ (wF h 88 0 0) 88 13 3) _ = _; rw [eo, bn_s1, eo', bn_s1]; exact pr_rd (MS_k H0.1) hn' _) (fun c d h1 H1 => ?_)
  obtain ⟨N, rfl⟩ := Int.eq_ofNat_of_zero_le (show 0 ≤ n by omega)
  obtain ⟨h2, e2, q2, B2⟩ := D_plans (n := N) (e := 0) HA (RQ_ri H1) c (by omega) (by omega) (by omega)
  refine dg_e H1.1 q2 ?_
  rw [j_0, e2, bd_s1]
  rfl
theorem d_fst {a : Ab} {h : Hp} {n : Int} (HA : AW a) (H : RI a h) (hn' : rng n) : Dq (F_md_feasts 88 (J n) h) h (if ¬ qL a 1 0 = 0 ∧ (1 ≤ n ∧ n ≤ 4) then w_pln a n.toNat 1 else -1) (t_2 (¬ qL a 1 0 = 0) (1 ≤ n ∧ n ≤ 4)) := by
  have H0 := RI_0 H
  obtain ⟨o, eo, eo'⟩ := pr_qL H0
  unfold F_md_feasts
  refine dq_w3 (X := fun h1 => gQ h1 88 13 3) (E := fun x3 => if x3 = none then some (0 : Int32) else some (1 : Int32)) (R := fun x h1 => F_md_refusesDays 88 x (J n) h1) H (by show bn (gQ (wF h 88 0 0) 88 13 3) _ = _; rw [eo, bn_s1, eo', bn_s1]; exact pr_rd (MS_k H0.1) hn' _) (fun c d h1 H1 => ?_)
  obtain ⟨N, rfl⟩ := Int.eq_ofNat_of_zero_le (show 0 ≤ n by omega)
  obtain ⟨h2, e2, q2, B2⟩ := D_plans (n := N) (e := 1) HA (RQ_ri H1) c (by omega) (by omega) (by omega)
  refine dg_e H1.1 q2 ?_
  rw [j_1, e2, bd_s1]
  rfl
theorem d_pdy {a : Ab} {h : Hp} {d n : Int} (HA : AW a) (HN : NL a) (H : RI a h) (hd : rng d) (hn' : rng n) : Dq (F_md_planDays 88 (J d) (J n) h) h (if inr d (qL a 4 0) ∧ (1 ≤ n ∧ n ≤ 4) then w_pdy a d.toNat n.toNat 0 else -1) (t_2 (inr d (qL a 4 0)) (1 ≤ n ∧ n ≤ 4)) := by
  have H0 := RI_0 H
  unfold F_md_planDays
  refine dq_w (X := fun h1 => F_md_isDrinker 88 (J d) h1) (R := fun x h1 => F_md_refusesDays 88 x (J n) h1) H (by show bn (F_md_isDrinker 88 (J d) (wF h 88 0 0)) _ = _; rw [pr_i4 HA H0 hd, bn_s1]; exact pr_rd (MS_k H0.1) hn' _) (fun c en h1 H1 => ?_)
  have cl : ¬ qL a 1 0 = 0 := fun x => by have := (HN x).1 4 (by omega); omega
  have b4 := LW_d HA.1
  obtain ⟨N, rfl⟩ := Int.eq_ofNat_of_zero_le (show 0 ≤ n by omega)
  obtain ⟨k, rfl⟩ := Int.eq_ofNat_of_zero_le c.1
  obtain ⟨h2, e2, q2, B2⟩ := D_plans (n := N) (e := 0) HA (RQ_ri H1) cl (by omega) (by omega) (by omega)
  have M2 := MS_fm q2.1 H1.1
  refine dg_e (v := w_pdy a ((k : Int).toNat) ((N : Int).toNat) 0) H1.1 q2 ?_
  rw [j_0, e2, bd_s1, Int.toNat_natCast, Int.toNat_natCast, jm2]
  unfold w_pdy
  cases hb : pbs a N 0 with
  | none => rw [ieq_1 (show wc none = -2 from rfl), bn_s1]
  | some v =>
    obtain ⟨a1, a2, a3⟩ := B2 v.1 v.2 hb
    have a4 := (a3 k c.2).1
    rw [ieq_0 (show ¬ wc (some v) = -2 by show ¬ v.1 = -2; omega) (by show -2147483648 ≤ v.1; omega) (by show v.1 < 2147483648; omega) (by omega) (by omega), mr_23 M2, bn_s1, m96a M2 (by omega) (by omega), bn_s1, bn_s1, a4]
theorem d_phs {a : Ab} {h : Hp} {d n : Int} (HA : AW a) (HN : NL a) (H : RI a h) (hd : rng d) (hn' : rng n) : Dq (F_md_planHouse 88 (J d) (J n) h) h (if inr d (qL a 4 0) ∧ (1 ≤ n ∧ n ≤ 4) then w_phs a d.toNat n.toNat 0 else -1) (t_2 (inr d (qL a 4 0)) (1 ≤ n ∧ n ≤ 4)) := by
  have H0 := RI_0 H
  unfold F_md_planHouse
  refine dq_w (X := fun h1 => F_md_isDrinker 88 (J d) h1) (R := fun x h1 => F_md_refusesDays 88 x (J n) h1) H (by show bn (F_md_isDrinker 88 (J d) (wF h 88 0 0)) _ = _; rw [pr_i4 HA H0 hd, bn_s1]; exact pr_rd (MS_k H0.1) hn' _) (fun c en h1 H1 => ?_)
  have cl : ¬ qL a 1 0 = 0 := fun x => by have := (HN x).1 4 (by omega); omega
  have b4 := LW_d HA.1
  obtain ⟨N, rfl⟩ := Int.eq_ofNat_of_zero_le (show 0 ≤ n by omega)
  obtain ⟨k, rfl⟩ := Int.eq_ofNat_of_zero_le c.1
  obtain ⟨h2, e2, q2, B2⟩ := D_plans (n := N) (e := 0) HA (RQ_ri H1) cl (by omega) (by omega) (by omega)
  have M2 := MS_fm q2.1 H1.1
  refine dg_e (v := w_phs a ((k : Int).toNat) ((N : Int).toNat) 0) H1.1 q2 ?_
  rw [j_0, e2, bd_s1, Int.toNat_natCast, Int.toNat_natCast, jm2]
  unfold w_phs
  cases hb : pbs a N 0 with
  | none => rw [ieq_1 (show wc none = -2 from rfl), bn_s1]
  | some v =>
    obtain ⟨a1, a2, a3⟩ := B2 v.1 v.2 hb
    have a4 := (a3 k c.2).2
    rw [ieq_0 (show ¬ wc (some v) = -2 by show ¬ v.1 = -2; omega) (by show -2147483648 ≤ v.1; omega) (by show v.1 < 2147483648; omega) (by omega) (by omega), mr_24 M2, bn_s1, m97a M2 (by omega) (by omega), bn_s1, bn_s1, a4]
theorem d_fhs {a : Ab} {h : Hp} {d n : Int} (HA : AW a) (HN : NL a) (H : RI a h) (hd : rng d) (hn' : rng n) : Dq (F_md_feastHouse 88 (J d) (J n) h) h (if inr d (qL a 4 0) ∧ (1 ≤ n ∧ n ≤ 4) then w_phs a d.toNat n.toNat 1 else -1) (t_2 (inr d (qL a 4 0)) (1 ≤ n ∧ n ≤ 4)) := by
  have H0 := RI_0 H
  unfold F_md_feastHouse
  refine dq_w (X := fun h1 => F_md_isDrinker 88 (J d) h1) (R := fun x h1 => F_md_refusesDays 88 x (J n) h1) H (by show bn (F_md_isDrinker 88 (J d) (wF h 88 0 0)) _ = _; rw [pr_i4 HA H0 hd, bn_s1]; exact pr_rd (MS_k H0.1) hn' _) (fun c en h1 H1 => ?_)
  have cl : ¬ qL a 1 0 = 0 := fun x => by have := (HN x).1 4 (by omega); omega
  have b4 := LW_d HA.1
  obtain ⟨N, rfl⟩ := Int.eq_ofNat_of_zero_le (show 0 ≤ n by omega)
  obtain ⟨k, rfl⟩ := Int.eq_ofNat_of_zero_le c.1
  obtain ⟨h2, e2, q2, B2⟩ := D_plans (n := N) (e := 1) HA (RQ_ri H1) cl (by omega) (by omega) (by omega)
  have M2 := MS_fm q2.1 H1.1
  refine dg_e (v := w_phs a ((k : Int).toNat) ((N : Int).toNat) 1) H1.1 q2 ?_
  rw [j_1, e2, bd_s1, Int.toNat_natCast, Int.toNat_natCast, jm2]
  unfold w_phs
  cases hb : pbs a N 1 with
  | none => rw [ieq_1 (show wc none = -2 from rfl), bn_s1]
  | some v =>
    obtain ⟨a1, a2, a3⟩ := B2 v.1 v.2 hb
    have a4 := (a3 k c.2).2
    rw [ieq_0 (show ¬ wc (some v) = -2 by show ¬ v.1 = -2; omega) (by show -2147483648 ≤ v.1; omega) (by show v.1 < 2147483648; omega) (by omega) (by omega), mr_24 M2, bn_s1, m97a M2 (by omega) (by omega), bn_s1, bn_s1, a4]
