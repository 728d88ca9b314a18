/-! sets, setAt, could, surely, ask, askLeaves -/
theorem shlZ {z : Int} (h0 : 0 ≤ z) (h1 : z < 5) : J 1 <<< (J z &&& J 31) = J ((2 ^ z.toNat : Nat) : Int) := by
  obtain ⟨n, rfl⟩ := Int.eq_ofNat_of_zero_le h0
  exact shlJ (by omega)
def ftl (L : Lk) : Nat → List Nat
  | 0 => []
  | n + 1 => if uns L n = -2 then ftl L n ++ [n] else ftl L n
theorem ftl_p (L : Lk) : ∀ n, (ftl L n).length ≤ n ∧ ∀ x, x ∈ ftl L n → x < n := by
  intro n
  induction n with
  | zero => exact ⟨Nat.le_refl _, fun x hx => by cases hx⟩
  | succ n ih =>
    unfold ftl
    by_cases c : uns L n = -2
    · rw [if_pos c]
      refine ⟨by rw [List.length_append, List.length_singleton]; omega, fun x hx => ?_⟩
      rw [List.mem_append, List.mem_singleton] at hx
      cases hx with
      | inl h => have := ih.2 x h; omega
      | inr h => omega
    · rw [if_neg c]; exact ⟨by omega, fun x hx => by have := ih.2 x hx; omega⟩
theorem getD_snoc_lt {l : List Nat} {n k : Nat} (h : k < l.length) : (l ++ [n]).getD k 0 = l.getD k 0 := by
  rw [List.getD_eq_getElem?_getD, List.getD_eq_getElem?_getD, List.getElem?_append_left h]
theorem getD_snoc_eq {l : List Nat} {n : Nat} : (l ++ [n]).getD l.length 0 = n := by
  rw [List.getD_eq_getElem?_getD, List.getElem?_append_right (Nat.le_refl _), Nat.sub_self]; rfl
def flt (a : Ab) : List Nat := ftl (qL a) (2 ^ (qL a 4 0).toNat)
theorem pw8 {L : Lk} (HL : LW L) : 1 ≤ 2 ^ (L 4 0).toNat ∧ 2 ^ (L 4 0).toNat ≤ 8 := by
  have b := LW_d HL
  have : 2 ^ (L 4 0).toNat ≤ 2 ^ 3 := Nat.pow_le_pow_right (by decide) (by omega)
  have := Nat.two_pow_pos (L 4 0).toNat
  omega
theorem C_find {a : Ab} {t : Nat} {h : Hp} (HA : AW a) (H : CI a t h) : ∃ h', F_ho_find 70 t h = some h' ∧ Fm 70 79 h h' ∧ fi h' 70 0 = (flt a).length ∧ ∀ k : Nat, k < (flt a).length → ia h' 71 k = ((flt a).getD k 0 : Nat) := by
  have V := H.1
  have o := XV_o V
  have b4 := LW_d HA.1
  have p8 := pw8 HA.1
  have sh := shlZ (z := qL a 4 0) (by omega) (by omega)
  unfold flt
  generalize 2 ^ (qL a 4 0).toNat = P at p8 sh ⊢
  have f0 : Fm 70 79 h (wF h 70 0 0) := fm_wF (by omega) (by omega)
  obtain ⟨y, h1, e1, q1⟩ := lp_for (b := B_ho_find_7 70 t) (f := FU) (s := J 0) (h := wF h 70 0 0) (fun i s h' => s = J i ∧ Fm 70 79 h h' ∧ fi h' 70 0 = (ftl (qL a) i).length ∧ ∀ k : Nat, k < (ftl (qL a) i).length → ia h' 71 k = ((ftl (qL a) i).getD k 0 : Nat)) (fun _ h' => Fm 70 79 h h' ∧ fi h' 70 0 = (ftl (qL a) P).length ∧ ∀ k : Nat, k < (ftl (qL a) P).length → ia h' 71 k = ((ftl (qL a) P).getD k 0 : Nat)) P (by unfold FU; omega) ⟨rfl, f0, fi_same (by omega) (by omega), fun k hk => by cases hk⟩ (fun i s h1 hi hI => by
      obtain ⟨rfl, f1, n1, x1⟩ := hI
      have V1 := XV_fm f1 (by omega) V
      have R1 := TR_fm f1 (by omega) H.2.1
      have ub := uns_b HA.1 i
      obtain ⟨h2, e2, f2⟩ := C_firstUnlike (hs := i) HA V1 R1 (by omega)
      have V2 := XV_fm f2 (by omega) V1
      have n2 : fi h2 70 0 = (ftl (qL a) i).length := by rw [fm_fi f2 (by omega)]; exact n1
      have x2 : ∀ k : Nat, k < (ftl (qL a) i).length → ia h2 71 k = ((ftl (qL a) i).getD k 0 : Nat) := fun k hk => by rw [fm_ia f2 (by omega)]; exact x1 k hk
      have lp := ftl_p (qL a) i
      have n8 : aN h1 71 = some (J (8 : Nat)) := aN_J (HS_k1 (XV_h V1)) (HS_n1 (XV_h V1))
      replace n8 : aN h1 71 = some (J 8) := n8
      have e6 : ftl (qL a) (i + 1) = if uns (qL a) i = -2 then ftl (qL a) i ++ [i] else ftl (qL a) i := rfl
      by_cases cu : uns (qL a) i = -2
      · rw [if_pos cu] at e6
        have f3 : Fm 70 79 h2 (wA h2 71 ((ftl (qL a) i).length : Nat) i) := fm_wA (by omega) (by omega)
        have V3 := XV_fm f3 (by omega) V2
        have f4 : Fm 70 79 (wA h2 71 ((ftl (qL a) i).length : Nat) i) (wF (wA h2 71 ((ftl (qL a) i).length : Nat) i) 70 0 (((ftl (qL a) i).length : Nat) + 1)) := fm_wF (by omega) (by omega)
        have n3 : fi (wA h2 71 ((ftl (qL a) i).length : Nat) i) 70 0 = (ftl (qL a) i).length := n2
        have nl : (iA h2 71).length = 8 := HS_n1 (XV_h V2)
        refine ⟨J (i + 1 : Nat), _, ?_, rfl, fm_tr f1 (fm_tr (fm_wd f2 (by omega) (by omega)) (fm_tr f3 f4)), ?_, fun k hk => ?_⟩
        · unfold B_ho_find_7
          rw [jm2]
          try simp only [j_0, j_1, j_2, j_3, j_4, j_5, j_6, j_7, j_8, j_9, j_10, j_11, j_12, j_13, j_14, j_15, j_16, j_17, j_18, j_19, j_20, j_21, j_22, j_23, j_24, j_25, j_26, j_27, j_28, j_29, j_30, j_31, j_32, j_33, j_34, j_35, j_36, j_37, j_38, j_39, j_40, j_41, j_42, j_43, j_44, j_45, j_46, j_47, j_48, j_49, j_50, j_51, j_52, j_57, j_59, j_63, j_74, j_75, j_93, j_97, j_99, j_100, j_122, j_200, j_255, j_300, j_465, j_496, j_900, j_999, j_1000, j_65536, j_65537, j_99999, j_252645135, j_858993459, j_1431655765, k_0, k_1, k_27, k_32, k_74, k_75, k_100, k_1000, k_65537]
          simp (disch := first | with_reducible assumption | omega | trivial) only [↓bn_s1, ↓bd_s1, ↓ei_l1, ↓ei_r1, ↓bn_if, ↓ilt_1, ↓ilt_0, ↓ieq_1, ↓ieq_0, bn_s1, bd_s1, ei_l1, ei_r1, J_add, J_sub, J_mul, J_neg, J_lt, J_le, J_eq, dv_J, rm_J, if_pos, if_neg, ↓reduceIte, bitJ, shlJ, orJ, j_0, j_1, j_2, j_3, j_4, j_5, j_6, j_7, j_8, j_9, j_10, j_11, j_12, j_13, j_14, j_15, j_16, j_17, j_18, j_19, j_20, j_21, j_22, j_23, j_24, j_25, j_26, j_27, j_28, j_29, j_30, j_31, j_32, j_33, j_34, j_35, j_36, j_37, j_38, j_39, j_40, j_41, j_42, j_43, j_44, j_45, j_46, j_47, j_48, j_49, j_50, j_51, j_52, j_57, j_59, j_63, j_74, j_75, j_93, j_97, j_99, j_100, j_122, j_200, j_255, j_300, j_465, j_496, j_900, j_999, j_1000, j_65536, j_65537, j_99999, j_252645135, j_858993459, j_1431655765, k_0, k_1, k_27, k_32, k_74, k_75, k_100, k_1000, k_65537, ti_0 (XV_ts V1) R1, ↓ti_0_b (XV_ts V1) R1, ti_1 (XV_ts V1) R1, ↓ti_1_b (XV_ts V1) R1, ti_5 (XV_ts V1) R1, ↓ti_5_b (XV_ts V1) R1, ti_8 (XV_ts V1) R1, ↓ti_8_b (XV_ts V1) R1, ti_11 (XV_ts V1) R1, ↓ti_11_b (XV_ts V1) R1, ti_14 (XV_ts V1) R1, ↓ti_14_b (XV_ts V1) R1, ty_0 (XV_ts V1) R1, ↓ty_0_b (XV_ts V1) R1, ty_4 (XV_ts V1) R1, ↓ty_4_b (XV_ts V1) R1, trf_18 (XV_ts V1), ↓trf_18_b (XV_ts V1), trf_3 (XV_ts V1), ↓trf_3_b (XV_ts V1), trf_4 (XV_ts V1), ↓trf_4_b (XV_ts V1), trf_6 (XV_ts V1), ↓trf_6_b (XV_ts V1), trf_7 (XV_ts V1), ↓trf_7_b (XV_ts V1), trf_9 (XV_ts V1), ↓trf_9_b (XV_ts V1), trf_10 (XV_ts V1), ↓trf_10_b (XV_ts V1), trf_12 (XV_ts V1), ↓trf_12_b (XV_ts V1), trf_13 (XV_ts V1), ↓trf_13_b (XV_ts V1), trf_15 (XV_ts V1), ↓trf_15_b (XV_ts V1), trf_16 (XV_ts V1), ↓trf_16_b (XV_ts V1), trf_17 (XV_ts V1), ↓trf_17_b (XV_ts V1), try_1 (XV_ts V1), ↓try_1_b (XV_ts V1), try_2 (XV_ts V1), ↓try_2_b (XV_ts V1), try_3 (XV_ts V1), ↓try_3_b (XV_ts V1), try_5 (XV_ts V1), ↓try_5_b (XV_ts V1), try_6 (XV_ts V1), ↓try_6_b (XV_ts V1), ta_3 HA.1 (XV_ts V1) R1, ↓ta_3_b HA.1 (XV_ts V1) R1, ta_4 HA.1 (XV_ts V1) R1, ↓ta_4_b HA.1 (XV_ts V1) R1, ta_6 HA.1 (XV_ts V1) R1, ↓ta_6_b HA.1 (XV_ts V1) R1, ta_7 HA.1 (XV_ts V1) R1, ↓ta_7_b HA.1 (XV_ts V1) R1, ta_9 HA.1 (XV_ts V1) R1, ↓ta_9_b HA.1 (XV_ts V1) R1, ta_10 HA.1 (XV_ts V1) R1, ↓ta_10_b HA.1 (XV_ts V1) R1, ta_12 HA.1 (XV_ts V1) R1, ↓ta_12_b HA.1 (XV_ts V1) R1, ta_13 HA.1 (XV_ts V1) R1, ↓ta_13_b HA.1 (XV_ts V1) R1, ta_15 HA.1 (XV_ts V1) R1, ↓ta_15_b HA.1 (XV_ts V1) R1, ta_16 HA.1 (XV_ts V1) R1, ↓ta_16_b HA.1 (XV_ts V1) R1, ta_17 HA.1 (XV_ts V1) R1, ↓ta_17_b HA.1 (XV_ts V1) R1, tz_1 HA.1 (XV_ts V1) R1, ↓tz_1_b HA.1 (XV_ts V1) R1, tz_2 HA.1 (XV_ts V1) R1, ↓tz_2_b HA.1 (XV_ts V1) R1, tz_3 HA.1 (XV_ts V1) R1, ↓tz_3_b HA.1 (XV_ts V1) R1, tz_5 HA.1 (XV_ts V1) R1, ↓tz_5_b HA.1 (XV_ts V1) R1, tz_6 HA.1 (XV_ts V1) R1, ↓tz_6_b HA.1 (XV_ts V1) R1, sh, h_i V1, ↓h_i_b V1, h_p V1, ↓h_p_b V1, h_r1 V1, ↓h_r1_b V1, h_71a V1, ↓h_71a_b V1, h_71s V1, ↓h_71s_b V1, h_r2 V1, ↓h_r2_b V1, h_r3 V1, ↓h_r3_b V1, n1, ↓bn_e (n8), n8, ↓bd_e (e2), e2, cu, h_i V2, ↓h_i_b V2, h_p V2, ↓h_p_b V2, h_r1 V2, ↓h_r1_b V2, h_71a V2, ↓h_71a_b V2, h_71s V2, ↓h_71s_b V2, h_r2 V2, ↓h_r2_b V2, h_r3 V2, ↓h_r3_b V2, n2, h_i V3, ↓h_i_b V3, h_p V3, ↓h_p_b V3, h_r1 V3, ↓h_r1_b V3, h_71a V3, ↓h_71a_b V3, h_71s V3, ↓h_71s_b V3, h_r2 V3, ↓h_r2_b V3, h_r3 V3, ↓h_r3_b V3, n3]
          rfl
        · rw [fi_same (by omega) (by omega), e6, List.length_append, List.length_singleton]; rfl
        · rw [e6] at hk ⊢
          rw [List.length_append, List.length_singleton] at hk
          show ia (wA h2 71 ((ftl (qL a) i).length : Nat) i) 71 k = _
          rw [ia_if (by omega) (by omega) (by omega) (by omega) (by omega)]
          by_cases ek : k = (ftl (qL a) i).length
          · rw [if_pos (by omega), ek, getD_snoc_eq]
          · rw [if_neg (by omega), getD_snoc_lt (by omega)]; exact x2 k (by omega)
      · rw [if_neg cu] at e6
        refine ⟨J (i + 1 : Nat), h2, ?_, rfl, fm_tr f1 (fm_wd f2 (by omega) (by omega)), by rw [e6]; exact n2, by rw [e6]; exact x2⟩
        unfold B_ho_find_7
        rw [jm2]
        try simp only [j_0, j_1, j_2, j_3, j_4, j_5, j_6, j_7, j_8, j_9, j_10, j_11, j_12, j_13, j_14, j_15, j_16, j_17, j_18, j_19, j_20, j_21, j_22, j_23, j_24, j_25, j_26, j_27, j_28, j_29, j_30, j_31, j_32, j_33, j_34, j_35, j_36, j_37, j_38, j_39, j_40, j_41, j_42, j_43, j_44, j_45, j_46, j_47, j_48, j_49, j_50, j_51, j_52, j_57, j_59, j_63, j_74, j_75, j_93, j_97, j_99, j_100, j_122, j_200, j_255, j_300, j_465, j_496, j_900, j_999, j_1000, j_65536, j_65537, j_99999, j_252645135, j_858993459, j_1431655765, k_0, k_1, k_27, k_32, k_74, k_75, k_100, k_1000, k_65537]
        simp (disch := first | with_reducible assumption | omega | trivial) only [↓bn_s1, ↓bd_s1, ↓ei_l1, ↓ei_r1, ↓bn_if, ↓ilt_1, ↓ilt_0, ↓ieq_1, ↓ieq_0, bn_s1, bd_s1, ei_l1, ei_r1, J_add, J_sub, J_mul, J_neg, J_lt, J_le, J_eq, dv_J, rm_J, if_pos, if_neg, ↓reduceIte, bitJ, shlJ, orJ, j_0, j_1, j_2, j_3, j_4, j_5, j_6, j_7, j_8, j_9, j_10, j_11, j_12, j_13, j_14, j_15, j_16, j_17, j_18, j_19, j_20, j_21, j_22, j_23, j_24, j_25, j_26, j_27, j_28, j_29, j_30, j_31, j_32, j_33, j_34, j_35, j_36, j_37, j_38, j_39, j_40, j_41, j_42, j_43, j_44, j_45, j_46, j_47, j_48, j_49, j_50, j_51, j_52, j_57, j_59, j_63, j_74, j_75, j_93, j_97, j_99, j_100, j_122, j_200, j_255, j_300, j_465, j_496, j_900, j_999, j_1000, j_65536, j_65537, j_99999, j_252645135, j_858993459, j_1431655765, k_0, k_1, k_27, k_32, k_74, k_75, k_100, k_1000, k_65537, ti_0 (XV_ts V1) R1, ↓ti_0_b (XV_ts V1) R1, ti_1 (XV_ts V1) R1, ↓ti_1_b (XV_ts V1) R1, ti_5 (XV_ts V1) R1, ↓ti_5_b (XV_ts V1) R1, ti_8 (XV_ts V1) R1, ↓ti_8_b (XV_ts V1) R1, ti_11 (XV_ts V1) R1, ↓ti_11_b (XV_ts V1) R1, ti_14 (XV_ts V1) R1, ↓ti_14_b (XV_ts V1) R1, ty_0 (XV_ts V1) R1, ↓ty_0_b (XV_ts V1) R1, ty_4 (XV_ts V1) R1, ↓ty_4_b (XV_ts V1) R1, trf_18 (XV_ts V1), ↓trf_18_b (XV_ts V1), trf_3 (XV_ts V1), ↓trf_3_b (XV_ts V1), trf_4 (XV_ts V1), ↓trf_4_b (XV_ts V1), trf_6 (XV_ts V1), ↓trf_6_b (XV_ts V1), trf_7 (XV_ts V1), ↓trf_7_b (XV_ts V1), trf_9 (XV_ts V1), ↓trf_9_b (XV_ts V1), trf_10 (XV_ts V1), ↓trf_10_b (XV_ts V1), trf_12 (XV_ts V1), ↓trf_12_b (XV_ts V1), trf_13 (XV_ts V1), ↓trf_13_b (XV_ts V1), trf_15 (XV_ts V1), ↓trf_15_b (XV_ts V1), trf_16 (XV_ts V1), ↓trf_16_b (XV_ts V1), trf_17 (XV_ts V1), ↓trf_17_b (XV_ts V1), try_1 (XV_ts V1), ↓try_1_b (XV_ts V1), try_2 (XV_ts V1), ↓try_2_b (XV_ts V1), try_3 (XV_ts V1), ↓try_3_b (XV_ts V1), try_5 (XV_ts V1), ↓try_5_b (XV_ts V1), try_6 (XV_ts V1), ↓try_6_b (XV_ts V1), ta_3 HA.1 (XV_ts V1) R1, ↓ta_3_b HA.1 (XV_ts V1) R1, ta_4 HA.1 (XV_ts V1) R1, ↓ta_4_b HA.1 (XV_ts V1) R1, ta_6 HA.1 (XV_ts V1) R1, ↓ta_6_b HA.1 (XV_ts V1) R1, ta_7 HA.1 (XV_ts V1) R1, ↓ta_7_b HA.1 (XV_ts V1) R1, ta_9 HA.1 (XV_ts V1) R1, ↓ta_9_b HA.1 (XV_ts V1) R1, ta_10 HA.1 (XV_ts V1) R1, ↓ta_10_b HA.1 (XV_ts V1) R1, ta_12 HA.1 (XV_ts V1) R1, ↓ta_12_b HA.1 (XV_ts V1) R1, ta_13 HA.1 (XV_ts V1) R1, ↓ta_13_b HA.1 (XV_ts V1) R1, ta_15 HA.1 (XV_ts V1) R1, ↓ta_15_b HA.1 (XV_ts V1) R1, ta_16 HA.1 (XV_ts V1) R1, ↓ta_16_b HA.1 (XV_ts V1) R1, ta_17 HA.1 (XV_ts V1) R1, ↓ta_17_b HA.1 (XV_ts V1) R1, tz_1 HA.1 (XV_ts V1) R1, ↓tz_1_b HA.1 (XV_ts V1) R1, tz_2 HA.1 (XV_ts V1) R1, ↓tz_2_b HA.1 (XV_ts V1) R1, tz_3 HA.1 (XV_ts V1) R1, ↓tz_3_b HA.1 (XV_ts V1) R1, tz_5 HA.1 (XV_ts V1) R1, ↓tz_5_b HA.1 (XV_ts V1) R1, tz_6 HA.1 (XV_ts V1) R1, ↓tz_6_b HA.1 (XV_ts V1) R1, sh, h_i V1, ↓h_i_b V1, h_p V1, ↓h_p_b V1, h_r1 V1, ↓h_r1_b V1, h_71a V1, ↓h_71a_b V1, h_71s V1, ↓h_71s_b V1, h_r2 V1, ↓h_r2_b V1, h_r3 V1, ↓h_r3_b V1, n1, ↓bn_e (n8), n8, ↓bd_e (e2), e2]
        rfl) (fun s h1 hI => by
      obtain ⟨rfl, f1, n1, x1⟩ := hI
      have V1 := XV_fm f1 (by omega) V
      have R1 := TR_fm f1 (by omega) H.2.1
      refine ⟨(), h1, ?_, f1, n1, x1⟩
      unfold B_ho_find_7
      try simp only [j_0, j_1, j_2, j_3, j_4, j_5, j_6, j_7, j_8, j_9, j_10, j_11, j_12, j_13, j_14, j_15, j_16, j_17, j_18, j_19, j_20, j_21, j_22, j_23, j_24, j_25, j_26, j_27, j_28, j_29, j_30, j_31, j_32, j_33, j_34, j_35, j_36, j_37, j_38, j_39, j_40, j_41, j_42, j_43, j_44, j_45, j_46, j_47, j_48, j_49, j_50, j_51, j_52, j_57, j_59, j_63, j_74, j_75, j_93, j_97, j_99, j_100, j_122, j_200, j_255, j_300, j_465, j_496, j_900, j_999, j_1000, j_65536, j_65537, j_99999, j_252645135, j_858993459, j_1431655765, k_0, k_1, k_27, k_32, k_74, k_75, k_100, k_1000, k_65537]
      simp (disch := first | with_reducible assumption | omega | trivial) only [↓bn_s1, ↓bd_s1, ↓ei_l1, ↓ei_r1, ↓bn_if, ↓ilt_1, ↓ilt_0, ↓ieq_1, ↓ieq_0, bn_s1, bd_s1, ei_l1, ei_r1, J_add, J_sub, J_mul, J_neg, J_lt, J_le, J_eq, dv_J, rm_J, if_pos, if_neg, ↓reduceIte, bitJ, shlJ, orJ, j_0, j_1, j_2, j_3, j_4, j_5, j_6, j_7, j_8, j_9, j_10, j_11, j_12, j_13, j_14, j_15, j_16, j_17, j_18, j_19, j_20, j_21, j_22, j_23, j_24, j_25, j_26, j_27, j_28, j_29, j_30, j_31, j_32, j_33, j_34, j_35, j_36, j_37, j_38, j_39, j_40, j_41, j_42, j_43, j_44, j_45, j_46, j_47, j_48, j_49, j_50, j_51, j_52, j_57, j_59, j_63, j_74, j_75, j_93, j_97, j_99, j_100, j_122, j_200, j_255, j_300, j_465, j_496, j_900, j_999, j_1000, j_65536, j_65537, j_99999, j_252645135, j_858993459, j_1431655765, k_0, k_1, k_27, k_32, k_74, k_75, k_100, k_1000, k_65537, ti_0 (XV_ts V1) R1, ↓ti_0_b (XV_ts V1) R1, ti_1 (XV_ts V1) R1, ↓ti_1_b (XV_ts V1) R1, ti_5 (XV_ts V1) R1, ↓ti_5_b (XV_ts V1) R1, ti_8 (XV_ts V1) R1, ↓ti_8_b (XV_ts V1) R1, ti_11 (XV_ts V1) R1, ↓ti_11_b (XV_ts V1) R1, ti_14 (XV_ts V1) R1, ↓ti_14_b (XV_ts V1) R1, ty_0 (XV_ts V1) R1, ↓ty_0_b (XV_ts V1) R1, ty_4 (XV_ts V1) R1, ↓ty_4_b (XV_ts V1) R1, trf_18 (XV_ts V1), ↓trf_18_b (XV_ts V1), trf_3 (XV_ts V1), ↓trf_3_b (XV_ts V1), trf_4 (XV_ts V1), ↓trf_4_b (XV_ts V1), trf_6 (XV_ts V1), ↓trf_6_b (XV_ts V1), trf_7 (XV_ts V1), ↓trf_7_b (XV_ts V1), trf_9 (XV_ts V1), ↓trf_9_b (XV_ts V1), trf_10 (XV_ts V1), ↓trf_10_b (XV_ts V1), trf_12 (XV_ts V1), ↓trf_12_b (XV_ts V1), trf_13 (XV_ts V1), ↓trf_13_b (XV_ts V1), trf_15 (XV_ts V1), ↓trf_15_b (XV_ts V1), trf_16 (XV_ts V1), ↓trf_16_b (XV_ts V1), trf_17 (XV_ts V1), ↓trf_17_b (XV_ts V1), try_1 (XV_ts V1), ↓try_1_b (XV_ts V1), try_2 (XV_ts V1), ↓try_2_b (XV_ts V1), try_3 (XV_ts V1), ↓try_3_b (XV_ts V1), try_5 (XV_ts V1), ↓try_5_b (XV_ts V1), try_6 (XV_ts V1), ↓try_6_b (XV_ts V1), ta_3 HA.1 (XV_ts V1) R1, ↓ta_3_b HA.1 (XV_ts V1) R1, ta_4 HA.1 (XV_ts V1) R1, ↓ta_4_b HA.1 (XV_ts V1) R1, ta_6 HA.1 (XV_ts V1) R1, ↓ta_6_b HA.1 (XV_ts V1) R1, ta_7 HA.1 (XV_ts V1) R1, ↓ta_7_b HA.1 (XV_ts V1) R1, ta_9 HA.1 (XV_ts V1) R1, ↓ta_9_b HA.1 (XV_ts V1) R1, ta_10 HA.1 (XV_ts V1) R1, ↓ta_10_b HA.1 (XV_ts V1) R1, ta_12 HA.1 (XV_ts V1) R1, ↓ta_12_b HA.1 (XV_ts V1) R1, ta_13 HA.1 (XV_ts V1) R1, ↓ta_13_b HA.1 (XV_ts V1) R1, ta_15 HA.1 (XV_ts V1) R1, ↓ta_15_b HA.1 (XV_ts V1) R1, ta_16 HA.1 (XV_ts V1) R1, ↓ta_16_b HA.1 (XV_ts V1) R1, ta_17 HA.1 (XV_ts V1) R1, ↓ta_17_b HA.1 (XV_ts V1) R1, tz_1 HA.1 (XV_ts V1) R1, ↓tz_1_b HA.1 (XV_ts V1) R1, tz_2 HA.1 (XV_ts V1) R1, ↓tz_2_b HA.1 (XV_ts V1) R1, tz_3 HA.1 (XV_ts V1) R1, ↓tz_3_b HA.1 (XV_ts V1) R1, tz_5 HA.1 (XV_ts V1) R1, ↓tz_5_b HA.1 (XV_ts V1) R1, tz_6 HA.1 (XV_ts V1) R1, ↓tz_6_b HA.1 (XV_ts V1) R1, sh])
  refine ⟨h1, ?_, q1⟩
  unfold F_ho_find
  rw [ck_e (HS_k (XV_h V))]
  try simp only [j_0, j_1, j_2, j_3, j_4, j_5, j_6, j_7, j_8, j_9, j_10, j_11, j_12, j_13, j_14, j_15, j_16, j_17, j_18, j_19, j_20, j_21, j_22, j_23, j_24, j_25, j_26, j_27, j_28, j_29, j_30, j_31, j_32, j_33, j_34, j_35, j_36, j_37, j_38, j_39, j_40, j_41, j_42, j_43, j_44, j_45, j_46, j_47, j_48, j_49, j_50, j_51, j_52, j_57, j_59, j_63, j_74, j_75, j_93, j_97, j_99, j_100, j_122, j_200, j_255, j_300, j_465, j_496, j_900, j_999, j_1000, j_65536, j_65537, j_99999, j_252645135, j_858993459, j_1431655765, k_0, k_1, k_27, k_32, k_74, k_75, k_100, k_1000, k_65537]
  simp (disch := first | with_reducible assumption | omega | trivial) only [↓bn_s1, ↓bd_s1, ↓ei_l1, ↓ei_r1, ↓bn_if, ↓ilt_1, ↓ilt_0, ↓ieq_1, ↓ieq_0, bn_s1, bd_s1, ei_l1, ei_r1, J_add, J_sub, J_mul, J_neg, J_lt, J_le, J_eq, dv_J, rm_J, if_pos, if_neg, ↓reduceIte, bitJ, shlJ, orJ, j_0, j_1, j_2, j_3, j_4, j_5, j_6, j_7, j_8, j_9, j_10, j_11, j_12, j_13, j_14, j_15, j_16, j_17, j_18, j_19, j_20, j_21, j_22, j_23, j_24, j_25, j_26, j_27, j_28, j_29, j_30, j_31, j_32, j_33, j_34, j_35, j_36, j_37, j_38, j_39, j_40, j_41, j_42, j_43, j_44, j_45, j_46, j_47, j_48, j_49, j_50, j_51, j_52, j_57, j_59, j_63, j_74, j_75, j_93, j_97, j_99, j_100, j_122, j_200, j_255, j_300, j_465, j_496, j_900, j_999, j_1000, j_65536, j_65537, j_99999, j_252645135, j_858993459, j_1431655765, k_0, k_1, k_27, k_32, k_74, k_75, k_100, k_1000, k_65537, h_i V, ↓h_i_b V, h_p V, ↓h_p_b V, h_r1 V, ↓h_r1_b V, h_71a V, ↓h_71a_b V, h_71s V, ↓h_71s_b V, h_r2 V, ↓h_r2_b V, h_r3 V, ↓h_r3_b V, ↓bd_e (e1), e1]
/-! what is made of the list -/
def lor (l : List Nat) : Nat := l.foldl (fun x y => x ||| y) 0
def lan (M : Nat) (l : List Nat) : Nat := l.foldl (fun x y => x &&& y) M
def lct (d : Nat) (l : List Nat) : Nat := l.foldl (fun x y => x + (if y.testBit d = true then 1 else 0)) 0
theorem lor_s (l : List Nat) (x : Nat) : lor (l ++ [x]) = lor l ||| x := foldl_snoc _ _ _ _
theorem lan_s (M : Nat) (l : List Nat) (x : Nat) : lan M (l ++ [x]) = lan M l &&& x := foldl_snoc _ _ _ _
theorem lct_s (d : Nat) (l : List Nat) (x : Nat) : lct d (l ++ [x]) = lct d l + (if x.testBit d = true then 1 else 0) := foldl_snoc _ _ _ _
theorem lor_f (L : Lk) : ∀ n, n ≤ 8 → lor (ftl L n) < 8 := by
  intro n
  induction n with
  | zero => intro _; show (0 : Nat) < 8; omega
  | succ n ih =>
    intro h
    unfold ftl
    by_cases c : uns L n = -2
    · rw [if_pos c, lor_s]; exact Nat.or_lt_two_pow (n := 3) (ih (by omega)) (by omega)
    · rw [if_neg c]; exact ih (by omega)
theorem lan_f (L : Lk) {M : Nat} (hM : M < 8) : ∀ n, n ≤ 8 → lan M (ftl L n) < 8 := by
  intro n
  induction n with
  | zero => intro _; exact hM
  | succ n ih =>
    intro h
    unfold ftl
    by_cases c : uns L n = -2
    · rw [if_pos c, lan_s]; exact Nat.and_lt_two_pow (n := 3) _ (by omega)
    · rw [if_neg c]; exact ih (by omega)
theorem lct_f (L : Lk) (d : Nat) : ∀ n, lct d (ftl L n) ≤ (ftl L n).length := by
  intro n
  induction n with
  | zero => exact Nat.le_refl _
  | succ n ih =>
    unfold ftl
    by_cases c : uns L n = -2
    · rw [if_pos c, lct_s, List.length_append, List.length_singleton]
      by_cases b : n.testBit d = true
      · rw [if_pos b]; omega
      · rw [if_neg b]; omega
    · rw [if_neg c]; exact ih
theorem take_s {l : List Nat} {k : Nat} (h : k < l.length) : l.take (k + 1) = l.take k ++ [l.getD k 0] := by
  rw [getD_e h]
  exact List.take_succ_eq_append_getElem h
theorem lor_t {l : List Nat} (hl : ∀ x, x ∈ l → x < 8) : ∀ k, k ≤ l.length → lor (l.take k) < 8 := by
  intro k
  induction k with
  | zero => intro _; show (0 : Nat) < 8; omega
  | succ k ih =>
    intro h
    rw [take_s (by omega), lor_s, getD_e (by omega)]
    exact Nat.or_lt_two_pow (n := 3) (ih (by omega)) (hl _ (List.getElem_mem _))
theorem lan_t {l : List Nat} {M : Nat} (hM : M < 8) (hl : ∀ x, x ∈ l → x < 8) : ∀ k, k ≤ l.length → lan M (l.take k) < 8 := by
  intro k
  induction k with
  | zero => intro _; exact hM
  | succ k ih =>
    intro h
    rw [take_s (by omega), lan_s, getD_e (by omega)]
    exact Nat.and_lt_two_pow (n := 3) _ (hl _ (List.getElem_mem _))
theorem lct_t (d : Nat) {l : List Nat} : ∀ k, k ≤ l.length → lct d (l.take k) ≤ k := by
  intro k
  induction k with
  | zero => intro _; exact Nat.le_refl _
  | succ k ih =>
    intro h
    rw [take_s (by omega), lct_s]
    have := ih (by omega)
    by_cases b : (l.getD k 0).testBit d = true
    · rw [if_pos b]; omega
    · rw [if_neg b]; omega
theorem gl8 {l : List Nat} (hl : ∀ x, x ∈ l → x < 8) {k : Nat} (h : k < l.length) : l.getD k 0 < 8 := by
  rw [getD_e h]; exact hl _ (List.getElem_mem _)
def HL8 (l : List Nat) (t : Nat) (h : Hp) : Prop := XV t h ∧ fi h 70 0 = l.length ∧ (∀ k : Nat, k < l.length → ia h 71 k = (l.getD k 0 : Nat)) ∧ l.length ≤ 8 ∧ ∀ x, x ∈ l → x < 8
theorem C_inSome {l : List Nat} {t : Nat} {h : Hp} (H : HL8 l t h) : F_ho_inSome 70 h = some (J (lor l : Nat)) := by
  obtain ⟨V, n1, x1, l8, m8⟩ := H
  have el := lq_for (b := B_ho_inSome_4 70 h) (r := J (lor l : Nat)) (f := FU) (s := (J 0, J 0)) (fun k => (J (lor (l.take k) : Nat), J k)) l.length (by unfold FU; omega) rfl (fun k hk => by
    have v := x1 k hk
    have a1 := lor_t m8 k (by omega)
    have a2 := gl8 m8 hk
    have e6 : lor (l.take (k + 1)) = lor (l.take k) ||| l.getD k 0 := by rw [take_s hk, lor_s]
    unfold B_ho_inSome_4
    try simp only [j_0, j_1, j_2, j_3, j_4, j_5, j_6, j_7, j_8, j_9, j_10, j_11, j_12, j_13, j_14, j_15, j_16, j_17, j_18, j_19, j_20, j_21, j_22, j_23, j_24, j_25, j_26, j_27, j_28, j_29, j_30, j_31, j_32, j_33, j_34, j_35, j_36, j_37, j_38, j_39, j_40, j_41, j_42, j_43, j_44, j_45, j_46, j_47, j_48, j_49, j_50, j_51, j_52, j_57, j_59, j_63, j_74, j_75, j_93, j_97, j_99, j_100, j_122, j_200, j_255, j_300, j_465, j_496, j_900, j_999, j_1000, j_65536, j_65537, j_99999, j_252645135, j_858993459, j_1431655765, k_0, k_1, k_27, k_32, k_74, k_75, k_100, k_1000, k_65537]
    simp (disch := first | with_reducible assumption | omega | trivial) only [↓bn_s1, ↓bd_s1, ↓ei_l1, ↓ei_r1, ↓bn_if, ↓ilt_1, ↓ilt_0, ↓ieq_1, ↓ieq_0, bn_s1, bd_s1, ei_l1, ei_r1, J_add, J_sub, J_mul, J_neg, J_lt, J_le, J_eq, dv_J, rm_J, if_pos, if_neg, ↓reduceIte, bitJ, shlJ, orJ, j_0, j_1, j_2, j_3, j_4, j_5, j_6, j_7, j_8, j_9, j_10, j_11, j_12, j_13, j_14, j_15, j_16, j_17, j_18, j_19, j_20, j_21, j_22, j_23, j_24, j_25, j_26, j_27, j_28, j_29, j_30, j_31, j_32, j_33, j_34, j_35, j_36, j_37, j_38, j_39, j_40, j_41, j_42, j_43, j_44, j_45, j_46, j_47, j_48, j_49, j_50, j_51, j_52, j_57, j_59, j_63, j_74, j_75, j_93, j_97, j_99, j_100, j_122, j_200, j_255, j_300, j_465, j_496, j_900, j_999, j_1000, j_65536, j_65537, j_99999, j_252645135, j_858993459, j_1431655765, k_0, k_1, k_27, k_32, k_74, k_75, k_100, k_1000, k_65537, h_i V, ↓h_i_b V, h_p V, ↓h_p_b V, h_r1 V, ↓h_r1_b V, h_71a V, ↓h_71a_b V, h_71s V, ↓h_71s_b V, h_r2 V, ↓h_r2_b V, h_r3 V, ↓h_r3_b V, n1, v, e6]
    rfl) (by
    have e : l.take l.length = l := List.take_length
    unfold B_ho_inSome_4
    rw [e]
    try simp only [j_0, j_1, j_2, j_3, j_4, j_5, j_6, j_7, j_8, j_9, j_10, j_11, j_12, j_13, j_14, j_15, j_16, j_17, j_18, j_19, j_20, j_21, j_22, j_23, j_24, j_25, j_26, j_27, j_28, j_29, j_30, j_31, j_32, j_33, j_34, j_35, j_36, j_37, j_38, j_39, j_40, j_41, j_42, j_43, j_44, j_45, j_46, j_47, j_48, j_49, j_50, j_51, j_52, j_57, j_59, j_63, j_74, j_75, j_93, j_97, j_99, j_100, j_122, j_200, j_255, j_300, j_465, j_496, j_900, j_999, j_1000, j_65536, j_65537, j_99999, j_252645135, j_858993459, j_1431655765, k_0, k_1, k_27, k_32, k_74, k_75, k_100, k_1000, k_65537]
    simp (disch := first | with_reducible assumption | omega | trivial) only [↓bn_s1, ↓bd_s1, ↓ei_l1, ↓ei_r1, ↓bn_if, ↓ilt_1, ↓ilt_0, ↓ieq_1, ↓ieq_0, bn_s1, bd_s1, ei_l1, ei_r1, J_add, J_sub, J_mul, J_neg, J_lt, J_le, J_eq, dv_J, rm_J, if_pos, if_neg, ↓reduceIte, bitJ, shlJ, orJ, j_0, j_1, j_2, j_3, j_4, j_5, j_6, j_7, j_8, j_9, j_10, j_11, j_12, j_13, j_14, j_15, j_16, j_17, j_18, j_19, j_20, j_21, j_22, j_23, j_24, j_25, j_26, j_27, j_28, j_29, j_30, j_31, j_32, j_33, j_34, j_35, j_36, j_37, j_38, j_39, j_40, j_41, j_42, j_43, j_44, j_45, j_46, j_47, j_48, j_49, j_50, j_51, j_52, j_57, j_59, j_63, j_74, j_75, j_93, j_97, j_99, j_100, j_122, j_200, j_255, j_300, j_465, j_496, j_900, j_999, j_1000, j_65536, j_65537, j_99999, j_252645135, j_858993459, j_1431655765, k_0, k_1, k_27, k_32, k_74, k_75, k_100, k_1000, k_65537, h_i V, ↓h_i_b V, h_p V, ↓h_p_b V, h_r1 V, ↓h_r1_b V, h_71a V, ↓h_71a_b V, h_71s V, ↓h_71s_b V, h_r2 V, ↓h_r2_b V, h_r3 V, ↓h_r3_b V, n1])
  unfold F_ho_inSome
  rw [ck_e (HS_k (XV_h V))]
  try simp only [j_0, j_1, j_2, j_3, j_4, j_5, j_6, j_7, j_8, j_9, j_10, j_11, j_12, j_13, j_14, j_15, j_16, j_17, j_18, j_19, j_20, j_21, j_22, j_23, j_24, j_25, j_26, j_27, j_28, j_29, j_30, j_31, j_32, j_33, j_34, j_35, j_36, j_37, j_38, j_39, j_40, j_41, j_42, j_43, j_44, j_45, j_46, j_47, j_48, j_49, j_50, j_51, j_52, j_57, j_59, j_63, j_74, j_75, j_93, j_97, j_99, j_100, j_122, j_200, j_255, j_300, j_465, j_496, j_900, j_999, j_1000, j_65536, j_65537, j_99999, j_252645135, j_858993459, j_1431655765, k_0, k_1, k_27, k_32, k_74, k_75, k_100, k_1000, k_65537]
  simp (disch := first | with_reducible assumption | omega | trivial) only [↓bn_s1, ↓bd_s1, ↓ei_l1, ↓ei_r1, ↓bn_if, ↓ilt_1, ↓ilt_0, ↓ieq_1, ↓ieq_0, bn_s1, bd_s1, ei_l1, ei_r1, J_add, J_sub, J_mul, J_neg, J_lt, J_le, J_eq, dv_J, rm_J, if_pos, if_neg, ↓reduceIte, bitJ, shlJ, orJ, j_0, j_1, j_2, j_3, j_4, j_5, j_6, j_7, j_8, j_9, j_10, j_11, j_12, j_13, j_14, j_15, j_16, j_17, j_18, j_19, j_20, j_21, j_22, j_23, j_24, j_25, j_26, j_27, j_28, j_29, j_30, j_31, j_32, j_33, j_34, j_35, j_36, j_37, j_38, j_39, j_40, j_41, j_42, j_43, j_44, j_45, j_46, j_47, j_48, j_49, j_50, j_51, j_52, j_57, j_59, j_63, j_74, j_75, j_93, j_97, j_99, j_100, j_122, j_200, j_255, j_300, j_465, j_496, j_900, j_999, j_1000, j_65536, j_65537, j_99999, j_252645135, j_858993459, j_1431655765, k_0, k_1, k_27, k_32, k_74, k_75, k_100, k_1000, k_65537, ↓bn_e (el), el]
def eve (M : Nat) (l : List Nat) : Nat := if l.length = 0 then 0 else lan M l
theorem andJ {n m : Nat} (hn : n < 32) (hm : m < 32) : J n &&& J m = J ((n &&& m : Nat) : Int) := and_J n hn m hm
theorem C_inAll {l : List Nat} {t : Nat} {h : Hp} {M : Nat} (H : HL8 l t h) (hM : M < 8) (hm : ∀ x, x ∈ l → M &&& x = x) : F_ho_inAll 70 h = some (J (eve M l : Nat)) := by
  obtain ⟨V, n1, x1, l8, m8⟩ := H
  unfold F_ho_inAll eve
  rw [ck_e (HS_k (XV_h V))]
  by_cases c : l.length = 0
  · rw [if_pos c]
    have el := lq_for (b := B_ho_inAll_20 70 h) (r := J 0) (f := FU) (s := (J 0, J 1)) (fun k => (J 0, J 1)) 0 (by unfold FU; omega) rfl (fun k hk => by omega) (by
      unfold B_ho_inAll_20
      try simp only [j_0, j_1, j_2, j_3, j_4, j_5, j_6, j_7, j_8, j_9, j_10, j_11, j_12, j_13, j_14, j_15, j_16, j_17, j_18, j_19, j_20, j_21, j_22, j_23, j_24, j_25, j_26, j_27, j_28, j_29, j_30, j_31, j_32, j_33, j_34, j_35, j_36, j_37, j_38, j_39, j_40, j_41, j_42, j_43, j_44, j_45, j_46, j_47, j_48, j_49, j_50, j_51, j_52, j_57, j_59, j_63, j_74, j_75, j_93, j_97, j_99, j_100, j_122, j_200, j_255, j_300, j_465, j_496, j_900, j_999, j_1000, j_65536, j_65537, j_99999, j_252645135, j_858993459, j_1431655765, k_0, k_1, k_27, k_32, k_74, k_75, k_100, k_1000, k_65537]
      simp (disch := first | with_reducible assumption | omega | trivial) only [↓bn_s1, ↓bd_s1, ↓ei_l1, ↓ei_r1, ↓bn_if, ↓ilt_1, ↓ilt_0, ↓ieq_1, ↓ieq_0, bn_s1, bd_s1, ei_l1, ei_r1, J_add, J_sub, J_mul, J_neg, J_lt, J_le, J_eq, dv_J, rm_J, if_pos, if_neg, ↓reduceIte, bitJ, shlJ, orJ, j_0, j_1, j_2, j_3, j_4, j_5, j_6, j_7, j_8, j_9, j_10, j_11, j_12, j_13, j_14, j_15, j_16, j_17, j_18, j_19, j_20, j_21, j_22, j_23, j_24, j_25, j_26, j_27, j_28, j_29, j_30, j_31, j_32, j_33, j_34, j_35, j_36, j_37, j_38, j_39, j_40, j_41, j_42, j_43, j_44, j_45, j_46, j_47, j_48, j_49, j_50, j_51, j_52, j_57, j_59, j_63, j_74, j_75, j_93, j_97, j_99, j_100, j_122, j_200, j_255, j_300, j_465, j_496, j_900, j_999, j_1000, j_65536, j_65537, j_99999, j_252645135, j_858993459, j_1431655765, k_0, k_1, k_27, k_32, k_74, k_75, k_100, k_1000, k_65537, h_i V, ↓h_i_b V, h_p V, ↓h_p_b V, h_r1 V, ↓h_r1_b V, h_71a V, ↓h_71a_b V, h_71s V, ↓h_71s_b V, h_r2 V, ↓h_r2_b V, h_r3 V, ↓h_r3_b V, n1])
    try simp only [j_0, j_1, j_2, j_3, j_4, j_5, j_6, j_7, j_8, j_9, j_10, j_11, j_12, j_13, j_14, j_15, j_16, j_17, j_18, j_19, j_20, j_21, j_22, j_23, j_24, j_25, j_26, j_27, j_28, j_29, j_30, j_31, j_32, j_33, j_34, j_35, j_36, j_37, j_38, j_39, j_40, j_41, j_42, j_43, j_44, j_45, j_46, j_47, j_48, j_49, j_50, j_51, j_52, j_57, j_59, j_63, j_74, j_75, j_93, j_97, j_99, j_100, j_122, j_200, j_255, j_300, j_465, j_496, j_900, j_999, j_1000, j_65536, j_65537, j_99999, j_252645135, j_858993459, j_1431655765, k_0, k_1, k_27, k_32, k_74, k_75, k_100, k_1000, k_65537]
    simp (disch := first | with_reducible assumption | omega | trivial) only [↓bn_s1, ↓bd_s1, ↓ei_l1, ↓ei_r1, ↓bn_if, ↓ilt_1, ↓ilt_0, ↓ieq_1, ↓ieq_0, bn_s1, bd_s1, ei_l1, ei_r1, J_add, J_sub, J_mul, J_neg, J_lt, J_le, J_eq, dv_J, rm_J, if_pos, if_neg, ↓reduceIte, bitJ, shlJ, orJ, j_0, j_1, j_2, j_3, j_4, j_5, j_6, j_7, j_8, j_9, j_10, j_11, j_12, j_13, j_14, j_15, j_16, j_17, j_18, j_19, j_20, j_21, j_22, j_23, j_24, j_25, j_26, j_27, j_28, j_29, j_30, j_31, j_32, j_33, j_34, j_35, j_36, j_37, j_38, j_39, j_40, j_41, j_42, j_43, j_44, j_45, j_46, j_47, j_48, j_49, j_50, j_51, j_52, j_57, j_59, j_63, j_74, j_75, j_93, j_97, j_99, j_100, j_122, j_200, j_255, j_300, j_465, j_496, j_900, j_999, j_1000, j_65536, j_65537, j_99999, j_252645135, j_858993459, j_1431655765, k_0, k_1, k_27, k_32, k_74, k_75, k_100, k_1000, k_65537, h_i V, ↓h_i_b V, h_p V, ↓h_p_b V, h_r1 V, ↓h_r1_b V, h_71a V, ↓h_71a_b V, h_71s V, ↓h_71s_b V, h_r2 V, ↓h_r2_b V, h_r3 V, ↓h_r3_b V, n1, ↓bn_e (el), el]
    rfl
  · rw [if_neg c]
    have v0 : ia h 71 0 = (l.getD 0 0 : Nat) := x1 0 (by omega)
    have t1 : lan M (l.take (0 + 1)) = l.getD 0 0 := by
      rw [take_s (by omega), lan_s]
      show M &&& l.getD 0 0 = l.getD 0 0
      rw [getD_e (by omega)]
      exact hm _ (List.getElem_mem _)
    have el := lq_for (b := B_ho_inAll_20 70 h) (r := J (lan M l : Nat)) (f := FU) (s := (J (l.getD 0 0 : Nat), J 1)) (fun k => (J (lan M (l.take (k + 1)) : Nat), J (k + 1 : Nat))) (l.length - 1) (by unfold FU; omega) (by rw [t1]; rfl) (fun k hk => by
      have v := x1 (k + 1) (by omega)
      have a1 := lan_t hM m8 (k + 1) (by omega)
      have a2 := gl8 m8 (show k + 1 < l.length by omega)
      have e6 : lan M (l.take (k + 1 + 1)) = lan M (l.take (k + 1)) &&& l.getD (k + 1) 0 := by rw [take_s (show k + 1 < l.length by omega), lan_s]
      have aj := andJ (n := lan M (l.take (k + 1))) (m := l.getD (k + 1) 0) (by omega) (by omega)
      rw [← e6] at aj
      unfold B_ho_inAll_20
      try simp only [j_0, j_1, j_2, j_3, j_4, j_5, j_6, j_7, j_8, j_9, j_10, j_11, j_12, j_13, j_14, j_15, j_16, j_17, j_18, j_19, j_20, j_21, j_22, j_23, j_24, j_25, j_26, j_27, j_28, j_29, j_30, j_31, j_32, j_33, j_34, j_35, j_36, j_37, j_38, j_39, j_40, j_41, j_42, j_43, j_44, j_45, j_46, j_47, j_48, j_49, j_50, j_51, j_52, j_57, j_59, j_63, j_74, j_75, j_93, j_97, j_99, j_100, j_122, j_200, j_255, j_300, j_465, j_496, j_900, j_999, j_1000, j_65536, j_65537, j_99999, j_252645135, j_858993459, j_1431655765, k_0, k_1, k_27, k_32, k_74, k_75, k_100, k_1000, k_65537]
      simp (disch := first | with_reducible assumption | omega | trivial) only [↓bn_s1, ↓bd_s1, ↓ei_l1, ↓ei_r1, ↓bn_if, ↓ilt_1, ↓ilt_0, ↓ieq_1, ↓ieq_0, bn_s1, bd_s1, ei_l1, ei_r1, J_add, J_sub, J_mul, J_neg, J_lt, J_le, J_eq, dv_J, rm_J, if_pos, if_neg, ↓reduceIte, bitJ, shlJ, orJ, j_0, j_1, j_2, j_3, j_4, j_5, j_6, j_7, j_8, j_9, j_10, j_11, j_12, j_13, j_14, j_15, j_16, j_17, j_18, j_19, j_20, j_21, j_22, j_23, j_24, j_25, j_26, j_27, j_28, j_29, j_30, j_31, j_32, j_33, j_34, j_35, j_36, j_37, j_38, j_39, j_40, j_41, j_42, j_43, j_44, j_45, j_46, j_47, j_48, j_49, j_50, j_51, j_52, j_57, j_59, j_63, j_74, j_75, j_93, j_97, j_99, j_100, j_122, j_200, j_255, j_300, j_465, j_496, j_900, j_999, j_1000, j_65536, j_65537, j_99999, j_252645135, j_858993459, j_1431655765, k_0, k_1, k_27, k_32, k_74, k_75, k_100, k_1000, k_65537, h_i V, ↓h_i_b V, h_p V, ↓h_p_b V, h_r1 V, ↓h_r1_b V, h_71a V, ↓h_71a_b V, h_71s V, ↓h_71s_b V, h_r2 V, ↓h_r2_b V, h_r3 V, ↓h_r3_b V, n1, v, aj]
      rfl) (by
      have e : l.take (l.length - 1 + 1) = l := by rw [show l.length - 1 + 1 = l.length by omega]; exact List.take_length
      rw [e]
      unfold B_ho_inAll_20
      try simp only [j_0, j_1, j_2, j_3, j_4, j_5, j_6, j_7, j_8, j_9, j_10, j_11, j_12, j_13, j_14, j_15, j_16, j_17, j_18, j_19, j_20, j_21, j_22, j_23, j_24, j_25, j_26, j_27, j_28, j_29, j_30, j_31, j_32, j_33, j_34, j_35, j_36, j_37, j_38, j_39, j_40, j_41, j_42, j_43, j_44, j_45, j_46, j_47, j_48, j_49, j_50, j_51, j_52, j_57, j_59, j_63, j_74, j_75, j_93, j_97, j_99, j_100, j_122, j_200, j_255, j_300, j_465, j_496, j_900, j_999, j_1000, j_65536, j_65537, j_99999, j_252645135, j_858993459, j_1431655765, k_0, k_1, k_27, k_32, k_74, k_75, k_100, k_1000, k_65537]
      simp (disch := first | with_reducible assumption | omega | trivial) only [↓bn_s1, ↓bd_s1, ↓ei_l1, ↓ei_r1, ↓bn_if, ↓ilt_1, ↓ilt_0, ↓ieq_1, ↓ieq_0, bn_s1, bd_s1, ei_l1, ei_r1, J_add, J_sub, J_mul, J_neg, J_lt, J_le, J_eq, dv_J, rm_J, if_pos, if_neg, ↓reduceIte, bitJ, shlJ, orJ, j_0, j_1, j_2, j_3, j_4, j_5, j_6, j_7, j_8, j_9, j_10, j_11, j_12, j_13, j_14, j_15, j_16, j_17, j_18, j_19, j_20, j_21, j_22, j_23, j_24, j_25, j_26, j_27, j_28, j_29, j_30, j_31, j_32, j_33, j_34, j_35, j_36, j_37, j_38, j_39, j_40, j_41, j_42, j_43, j_44, j_45, j_46, j_47, j_48, j_49, j_50, j_51, j_52, j_57, j_59, j_63, j_74, j_75, j_93, j_97, j_99, j_100, j_122, j_200, j_255, j_300, j_465, j_496, j_900, j_999, j_1000, j_65536, j_65537, j_99999, j_252645135, j_858993459, j_1431655765, k_0, k_1, k_27, k_32, k_74, k_75, k_100, k_1000, k_65537, h_i V, ↓h_i_b V, h_p V, ↓h_p_b V, h_r1 V, ↓h_r1_b V, h_71a V, ↓h_71a_b V, h_71s V, ↓h_71s_b V, h_r2 V, ↓h_r2_b V, h_r3 V, ↓h_r3_b V, n1])
    try simp only [j_0, j_1, j_2, j_3, j_4, j_5, j_6, j_7, j_8, j_9, j_10, j_11, j_12, j_13, j_14, j_15, j_16, j_17, j_18, j_19, j_20, j_21, j_22, j_23, j_24, j_25, j_26, j_27, j_28, j_29, j_30, j_31, j_32, j_33, j_34, j_35, j_36, j_37, j_38, j_39, j_40, j_41, j_42, j_43, j_44, j_45, j_46, j_47, j_48, j_49, j_50, j_51, j_52, j_57, j_59, j_63, j_74, j_75, j_93, j_97, j_99, j_100, j_122, j_200, j_255, j_300, j_465, j_496, j_900, j_999, j_1000, j_65536, j_65537, j_99999, j_252645135, j_858993459, j_1431655765, k_0, k_1, k_27, k_32, k_74, k_75, k_100, k_1000, k_65537]
    simp (disch := first | with_reducible assumption | omega | trivial) only [↓bn_s1, ↓bd_s1, ↓ei_l1, ↓ei_r1, ↓bn_if, ↓ilt_1, ↓ilt_0, ↓ieq_1, ↓ieq_0, bn_s1, bd_s1, ei_l1, ei_r1, J_add, J_sub, J_mul, J_neg, J_lt, J_le, J_eq, dv_J, rm_J, if_pos, if_neg, ↓reduceIte, bitJ, shlJ, orJ, j_0, j_1, j_2, j_3, j_4, j_5, j_6, j_7, j_8, j_9, j_10, j_11, j_12, j_13, j_14, j_15, j_16, j_17, j_18, j_19, j_20, j_21, j_22, j_23, j_24, j_25, j_26, j_27, j_28, j_29, j_30, j_31, j_32, j_33, j_34, j_35, j_36, j_37, j_38, j_39, j_40, j_41, j_42, j_43, j_44, j_45, j_46, j_47, j_48, j_49, j_50, j_51, j_52, j_57, j_59, j_63, j_74, j_75, j_93, j_97, j_99, j_100, j_122, j_200, j_255, j_300, j_465, j_496, j_900, j_999, j_1000, j_65536, j_65537, j_99999, j_252645135, j_858993459, j_1431655765, k_0, k_1, k_27, k_32, k_74, k_75, k_100, k_1000, k_65537, h_i V, ↓h_i_b V, h_p V, ↓h_p_b V, h_r1 V, ↓h_r1_b V, h_71a V, ↓h_71a_b V, h_71s V, ↓h_71s_b V, h_r2 V, ↓h_r2_b V, h_r3 V, ↓h_r3_b V, n1, v0, ↓bn_e (el), el]
def lfb (l : List Nat) (d : Int) : Int := max (lct d.toNat l : Int) ((l.length : Int) - (lct d.toNat l : Int))
theorem C_leftBy {l : List Nat} {t : Nat} {h : Hp} {d : Nat} (H : HL8 l t h) (hd : d < 5) : F_ho_leftBy 70 (J d) h = some (J (lfb l d)) := by
  obtain ⟨V, n1, x1, l8, m8⟩ := H
  have el := lq_for (b := B_ho_leftBy_4 70 (J d) h) (r := J (lct d l : Nat)) (f := FU) (s := (J 0, J 0)) (fun k => (J (lct d (l.take k) : Nat), J k)) l.length (by unfold FU; omega) rfl (fun k hk => by
    have v := x1 k hk
    have a1 := lct_t d (l := l) k (by omega)
    have a2 := gl8 m8 hk
    have e6 : lct d (l.take (k + 1)) = lct d (l.take k) + (if (l.getD k 0).testBit d = true then 1 else 0) := by rw [take_s hk, lct_s]
    have bb := bitJ (n := l.getD k 0) (k := d) (by omega) hd
    unfold B_ho_leftBy_4
    by_cases c : (l.getD k 0).testBit d = true
    · rw [if_pos c] at bb e6
      rw [e6]
      try simp only [j_0, j_1, j_2, j_3, j_4, j_5, j_6, j_7, j_8, j_9, j_10, j_11, j_12, j_13, j_14, j_15, j_16, j_17, j_18, j_19, j_20, j_21, j_22, j_23, j_24, j_25, j_26, j_27, j_28, j_29, j_30, j_31, j_32, j_33, j_34, j_35, j_36, j_37, j_38, j_39, j_40, j_41, j_42, j_43, j_44, j_45, j_46, j_47, j_48, j_49, j_50, j_51, j_52, j_57, j_59, j_63, j_74, j_75, j_93, j_97, j_99, j_100, j_122, j_200, j_255, j_300, j_465, j_496, j_900, j_999, j_1000, j_65536, j_65537, j_99999, j_252645135, j_858993459, j_1431655765, k_0, k_1, k_27, k_32, k_74, k_75, k_100, k_1000, k_65537]
      simp (disch := first | with_reducible assumption | omega | trivial) only [↓bn_s1, ↓bd_s1, ↓ei_l1, ↓ei_r1, ↓bn_if, ↓ilt_1, ↓ilt_0, ↓ieq_1, ↓ieq_0, bn_s1, bd_s1, ei_l1, ei_r1, J_add, J_sub, J_mul, J_neg, J_lt, J_le, J_eq, dv_J, rm_J, if_pos, if_neg, ↓reduceIte, bitJ, shlJ, orJ, j_0, j_1, j_2, j_3, j_4, j_5, j_6, j_7, j_8, j_9, j_10, j_11, j_12, j_13, j_14, j_15, j_16, j_17, j_18, j_19, j_20, j_21, j_22, j_23, j_24, j_25, j_26, j_27, j_28, j_29, j_30, j_31, j_32, j_33, j_34, j_35, j_36, j_37, j_38, j_39, j_40, j_41, j_42, j_43, j_44, j_45, j_46, j_47, j_48, j_49, j_50, j_51, j_52, j_57, j_59, j_63, j_74, j_75, j_93, j_97, j_99, j_100, j_122, j_200, j_255, j_300, j_465, j_496, j_900, j_999, j_1000, j_65536, j_65537, j_99999, j_252645135, j_858993459, j_1431655765, k_0, k_1, k_27, k_32, k_74, k_75, k_100, k_1000, k_65537, h_i V, ↓h_i_b V, h_p V, ↓h_p_b V, h_r1 V, ↓h_r1_b V, h_71a V, ↓h_71a_b V, h_71s V, ↓h_71s_b V, h_r2 V, ↓h_r2_b V, h_r3 V, ↓h_r3_b V, n1, v, bb]
      rfl
    · rw [if_neg c] at bb e6
      rw [e6]
      try simp only [j_0, j_1, j_2, j_3, j_4, j_5, j_6, j_7, j_8, j_9, j_10, j_11, j_12, j_13, j_14, j_15, j_16, j_17, j_18, j_19, j_20, j_21, j_22, j_23, j_24, j_25, j_26, j_27, j_28, j_29, j_30, j_31, j_32, j_33, j_34, j_35, j_36, j_37, j_38, j_39, j_40, j_41, j_42, j_43, j_44, j_45, j_46, j_47, j_48, j_49, j_50, j_51, j_52, j_57, j_59, j_63, j_74, j_75, j_93, j_97, j_99, j_100, j_122, j_200, j_255, j_300, j_465, j_496, j_900, j_999, j_1000, j_65536, j_65537, j_99999, j_252645135, j_858993459, j_1431655765, k_0, k_1, k_27, k_32, k_74, k_75, k_100, k_1000, k_65537]
      simp (disch := first | with_reducible assumption | omega | trivial) only [↓bn_s1, ↓bd_s1, ↓ei_l1, ↓ei_r1, ↓bn_if, ↓ilt_1, ↓ilt_0, ↓ieq_1, ↓ieq_0, bn_s1, bd_s1, ei_l1, ei_r1, J_add, J_sub, J_mul, J_neg, J_lt, J_le, J_eq, dv_J, rm_J, if_pos, if_neg, ↓reduceIte, bitJ, shlJ, orJ, j_0, j_1, j_2, j_3, j_4, j_5, j_6, j_7, j_8, j_9, j_10, j_11, j_12, j_13, j_14, j_15, j_16, j_17, j_18, j_19, j_20, j_21, j_22, j_23, j_24, j_25, j_26, j_27, j_28, j_29, j_30, j_31, j_32, j_33, j_34, j_35, j_36, j_37, j_38, j_39, j_40, j_41, j_42, j_43, j_44, j_45, j_46, j_47, j_48, j_49, j_50, j_51, j_52, j_57, j_59, j_63, j_74, j_75, j_93, j_97, j_99, j_100, j_122, j_200, j_255, j_300, j_465, j_496, j_900, j_999, j_1000, j_65536, j_65537, j_99999, j_252645135, j_858993459, j_1431655765, k_0, k_1, k_27, k_32, k_74, k_75, k_100, k_1000, k_65537, h_i V, ↓h_i_b V, h_p V, ↓h_p_b V, h_r1 V, ↓h_r1_b V, h_71a V, ↓h_71a_b V, h_71s V, ↓h_71s_b V, h_r2 V, ↓h_r2_b V, h_r3 V, ↓h_r3_b V, n1, v, bb]
      rfl) (by
    have e : l.take l.length = l := List.take_length
    unfold B_ho_leftBy_4
    rw [e]
    try simp only [j_0, j_1, j_2, j_3, j_4, j_5, j_6, j_7, j_8, j_9, j_10, j_11, j_12, j_13, j_14, j_15, j_16, j_17, j_18, j_19, j_20, j_21, j_22, j_23, j_24, j_25, j_26, j_27, j_28, j_29, j_30, j_31, j_32, j_33, j_34, j_35, j_36, j_37, j_38, j_39, j_40, j_41, j_42, j_43, j_44, j_45, j_46, j_47, j_48, j_49, j_50, j_51, j_52, j_57, j_59, j_63, j_74, j_75, j_93, j_97, j_99, j_100, j_122, j_200, j_255, j_300, j_465, j_496, j_900, j_999, j_1000, j_65536, j_65537, j_99999, j_252645135, j_858993459, j_1431655765, k_0, k_1, k_27, k_32, k_74, k_75, k_100, k_1000, k_65537]
    simp (disch := first | with_reducible assumption | omega | trivial) only [↓bn_s1, ↓bd_s1, ↓ei_l1, ↓ei_r1, ↓bn_if, ↓ilt_1, ↓ilt_0, ↓ieq_1, ↓ieq_0, bn_s1, bd_s1, ei_l1, ei_r1, J_add, J_sub, J_mul, J_neg, J_lt, J_le, J_eq, dv_J, rm_J, if_pos, if_neg, ↓reduceIte, bitJ, shlJ, orJ, j_0, j_1, j_2, j_3, j_4, j_5, j_6, j_7, j_8, j_9, j_10, j_11, j_12, j_13, j_14, j_15, j_16, j_17, j_18, j_19, j_20, j_21, j_22, j_23, j_24, j_25, j_26, j_27, j_28, j_29, j_30, j_31, j_32, j_33, j_34, j_35, j_36, j_37, j_38, j_39, j_40, j_41, j_42, j_43, j_44, j_45, j_46, j_47, j_48, j_49, j_50, j_51, j_52, j_57, j_59, j_63, j_74, j_75, j_93, j_97, j_99, j_100, j_122, j_200, j_255, j_300, j_465, j_496, j_900, j_999, j_1000, j_65536, j_65537, j_99999, j_252645135, j_858993459, j_1431655765, k_0, k_1, k_27, k_32, k_74, k_75, k_100, k_1000, k_65537, h_i V, ↓h_i_b V, h_p V, ↓h_p_b V, h_r1 V, ↓h_r1_b V, h_71a V, ↓h_71a_b V, h_71s V, ↓h_71s_b V, h_r2 V, ↓h_r2_b V, h_r3 V, ↓h_r3_b V, n1])
  have lb := lct_t d (l := l) l.length (Nat.le_refl _)
  rw [List.take_length] at lb
  have mx := max_e (a := (lct d l : Nat)) (b := (l.length : Int) - (lct d l : Nat)) (by omega) (by omega) (by omega) (by omega)
  unfold F_ho_leftBy
  rw [ck_e (HS_k (XV_h V))]
  try simp only [j_0, j_1, j_2, j_3, j_4, j_5, j_6, j_7, j_8, j_9, j_10, j_11, j_12, j_13, j_14, j_15, j_16, j_17, j_18, j_19, j_20, j_21, j_22, j_23, j_24, j_25, j_26, j_27, j_28, j_29, j_30, j_31, j_32, j_33, j_34, j_35, j_36, j_37, j_38, j_39, j_40, j_41, j_42, j_43, j_44, j_45, j_46, j_47, j_48, j_49, j_50, j_51, j_52, j_57, j_59, j_63, j_74, j_75, j_93, j_97, j_99, j_100, j_122, j_200, j_255, j_300, j_465, j_496, j_900, j_999, j_1000, j_65536, j_65537, j_99999, j_252645135, j_858993459, j_1431655765, k_0, k_1, k_27, k_32, k_74, k_75, k_100, k_1000, k_65537]
  simp (disch := first | with_reducible assumption | omega | trivial) only [↓bn_s1, ↓bd_s1, ↓ei_l1, ↓ei_r1, ↓bn_if, ↓ilt_1, ↓ilt_0, ↓ieq_1, ↓ieq_0, bn_s1, bd_s1, ei_l1, ei_r1, J_add, J_sub, J_mul, J_neg, J_lt, J_le, J_eq, dv_J, rm_J, if_pos, if_neg, ↓reduceIte, bitJ, shlJ, orJ, j_0, j_1, j_2, j_3, j_4, j_5, j_6, j_7, j_8, j_9, j_10, j_11, j_12, j_13, j_14, j_15, j_16, j_17, j_18, j_19, j_20, j_21, j_22, j_23, j_24, j_25, j_26, j_27, j_28, j_29, j_30, j_31, j_32, j_33, j_34, j_35, j_36, j_37, j_38, j_39, j_40, j_41, j_42, j_43, j_44, j_45, j_46, j_47, j_48, j_49, j_50, j_51, j_52, j_57, j_59, j_63, j_74, j_75, j_93, j_97, j_99, j_100, j_122, j_200, j_255, j_300, j_465, j_496, j_900, j_999, j_1000, j_65536, j_65537, j_99999, j_252645135, j_858993459, j_1431655765, k_0, k_1, k_27, k_32, k_74, k_75, k_100, k_1000, k_65537, ↓bn_e (el), el, h_i V, ↓h_i_b V, h_p V, ↓h_p_b V, h_r1 V, ↓h_r1_b V, h_71a V, ↓h_71a_b V, h_71s V, ↓h_71s_b V, h_r2 V, ↓h_r2_b V, h_r3 V, ↓h_r3_b V, n1, ↓bn_e (mx), mx]
  rfl
theorem lfb_b {l : List Nat} (l8 : l.length ≤ 8) (d : Int) : 0 ≤ lfb l d ∧ lfb l d ≤ 8 := by
  have lb := lct_t d.toNat (l := l) l.length (Nat.le_refl _)
  rw [List.take_length] at lb
  unfold lfb
  omega
def whm (l : List Nat) (n : Nat) : Int := if l.length = 0 ∨ n = 0 then -2 else (lw (lfb l) n : Nat)
theorem C_whomToAsk {l : List Nat} {t : Nat} {h : Hp} {n : Nat} (H : HL8 l t h) (hn' : n ≤ 3) : F_ho_whomToAsk 70 (J n) h = some (J (whm l n)) := by
  have V := H.1
  have n1 := H.2.1
  have l8 := H.2.2.2.1
  unfold F_ho_whomToAsk whm
  rw [ck_e (HS_k (XV_h V)), jm2]
  by_cases c : l.length = 0 ∨ n = 0
  · rw [if_pos c]
    cases c with
    | inl c =>
      try simp only [j_0, j_1, j_2, j_3, j_4, j_5, j_6, j_7, j_8, j_9, j_10, j_11, j_12, j_13, j_14, j_15, j_16, j_17, j_18, j_19, j_20, j_21, j_22, j_23, j_24, j_25, j_26, j_27, j_28, j_29, j_30, j_31, j_32, j_33, j_34, j_35, j_36, j_37, j_38, j_39, j_40, j_41, j_42, j_43, j_44, j_45, j_46, j_47, j_48, j_49, j_50, j_51, j_52, j_57, j_59, j_63, j_74, j_75, j_93, j_97, j_99, j_100, j_122, j_200, j_255, j_300, j_465, j_496, j_900, j_999, j_1000, j_65536, j_65537, j_99999, j_252645135, j_858993459, j_1431655765, k_0, k_1, k_27, k_32, k_74, k_75, k_100, k_1000, k_65537]
      simp (disch := first | with_reducible assumption | omega | trivial) only [↓bn_s1, ↓bd_s1, ↓ei_l1, ↓ei_r1, ↓bn_if, ↓ilt_1, ↓ilt_0, ↓ieq_1, ↓ieq_0, bn_s1, bd_s1, ei_l1, ei_r1, J_add, J_sub, J_mul, J_neg, J_lt, J_le, J_eq, dv_J, rm_J, if_pos, if_neg, ↓reduceIte, bitJ, shlJ, orJ, j_0, j_1, j_2, j_3, j_4, j_5, j_6, j_7, j_8, j_9, j_10, j_11, j_12, j_13, j_14, j_15, j_16, j_17, j_18, j_19, j_20, j_21, j_22, j_23, j_24, j_25, j_26, j_27, j_28, j_29, j_30, j_31, j_32, j_33, j_34, j_35, j_36, j_37, j_38, j_39, j_40, j_41, j_42, j_43, j_44, j_45, j_46, j_47, j_48, j_49, j_50, j_51, j_52, j_57, j_59, j_63, j_74, j_75, j_93, j_97, j_99, j_100, j_122, j_200, j_255, j_300, j_465, j_496, j_900, j_999, j_1000, j_65536, j_65537, j_99999, j_252645135, j_858993459, j_1431655765, k_0, k_1, k_27, k_32, k_74, k_75, k_100, k_1000, k_65537, h_i V, ↓h_i_b V, h_p V, ↓h_p_b V, h_r1 V, ↓h_r1_b V, h_71a V, ↓h_71a_b V, h_71s V, ↓h_71s_b V, h_r2 V, ↓h_r2_b V, h_r3 V, ↓h_r3_b V, n1]
    | inr c =>
      by_cases c' : l.length = 0
      · try simp only [j_0, j_1, j_2, j_3, j_4, j_5, j_6, j_7, j_8, j_9, j_10, j_11, j_12, j_13, j_14, j_15, j_16, j_17, j_18, j_19, j_20, j_21, j_22, j_23, j_24, j_25, j_26, j_27, j_28, j_29, j_30, j_31, j_32, j_33, j_34, j_35, j_36, j_37, j_38, j_39, j_40, j_41, j_42, j_43, j_44, j_45, j_46, j_47, j_48, j_49, j_50, j_51, j_52, j_57, j_59, j_63, j_74, j_75, j_93, j_97, j_99, j_100, j_122, j_200, j_255, j_300, j_465, j_496, j_900, j_999, j_1000, j_65536, j_65537, j_99999, j_252645135, j_858993459, j_1431655765, k_0, k_1, k_27, k_32, k_74, k_75, k_100, k_1000, k_65537]
        simp (disch := first | with_reducible assumption | omega | trivial) only [↓bn_s1, ↓bd_s1, ↓ei_l1, ↓ei_r1, ↓bn_if, ↓ilt_1, ↓ilt_0, ↓ieq_1, ↓ieq_0, bn_s1, bd_s1, ei_l1, ei_r1, J_add, J_sub, J_mul, J_neg, J_lt, J_le, J_eq, dv_J, rm_J, if_pos, if_neg, ↓reduceIte, bitJ, shlJ, orJ, j_0, j_1, j_2, j_3, j_4, j_5, j_6, j_7, j_8, j_9, j_10, j_11, j_12, j_13, j_14, j_15, j_16, j_17, j_18, j_19, j_20, j_21, j_22, j_23, j_24, j_25, j_26, j_27, j_28, j_29, j_30, j_31, j_32, j_33, j_34, j_35, j_36, j_37, j_38, j_39, j_40, j_41, j_42, j_43, j_44, j_45, j_46, j_47, j_48, j_49, j_50, j_51, j_52, j_57, j_59, j_63, j_74, j_75, j_93, j_97, j_99, j_100, j_122, j_200, j_255, j_300, j_465, j_496, j_900, j_999, j_1000, j_65536, j_65537, j_99999, j_252645135, j_858993459, j_1431655765, k_0, k_1, k_27, k_32, k_74, k_75, k_100, k_1000, k_65537, h_i V, ↓h_i_b V, h_p V, ↓h_p_b V, h_r1 V, ↓h_r1_b V, h_71a V, ↓h_71a_b V, h_71s V, ↓h_71s_b V, h_r2 V, ↓h_r2_b V, h_r3 V, ↓h_r3_b V, n1]
      · try simp only [j_0, j_1, j_2, j_3, j_4, j_5, j_6, j_7, j_8, j_9, j_10, j_11, j_12, j_13, j_14, j_15, j_16, j_17, j_18, j_19, j_20, j_21, j_22, j_23, j_24, j_25, j_26, j_27, j_28, j_29, j_30, j_31, j_32, j_33, j_34, j_35, j_36, j_37, j_38, j_39, j_40, j_41, j_42, j_43, j_44, j_45, j_46, j_47, j_48, j_49, j_50, j_51, j_52, j_57, j_59, j_63, j_74, j_75, j_93, j_97, j_99, j_100, j_122, j_200, j_255, j_300, j_465, j_496, j_900, j_999, j_1000, j_65536, j_65537, j_99999, j_252645135, j_858993459, j_1431655765, k_0, k_1, k_27, k_32, k_74, k_75, k_100, k_1000, k_65537]
        simp (disch := first | with_reducible assumption | omega | trivial) only [↓bn_s1, ↓bd_s1, ↓ei_l1, ↓ei_r1, ↓bn_if, ↓ilt_1, ↓ilt_0, ↓ieq_1, ↓ieq_0, bn_s1, bd_s1, ei_l1, ei_r1, J_add, J_sub, J_mul, J_neg, J_lt, J_le, J_eq, dv_J, rm_J, if_pos, if_neg, ↓reduceIte, bitJ, shlJ, orJ, j_0, j_1, j_2, j_3, j_4, j_5, j_6, j_7, j_8, j_9, j_10, j_11, j_12, j_13, j_14, j_15, j_16, j_17, j_18, j_19, j_20, j_21, j_22, j_23, j_24, j_25, j_26, j_27, j_28, j_29, j_30, j_31, j_32, j_33, j_34, j_35, j_36, j_37, j_38, j_39, j_40, j_41, j_42, j_43, j_44, j_45, j_46, j_47, j_48, j_49, j_50, j_51, j_52, j_57, j_59, j_63, j_74, j_75, j_93, j_97, j_99, j_100, j_122, j_200, j_255, j_300, j_465, j_496, j_900, j_999, j_1000, j_65536, j_65537, j_99999, j_252645135, j_858993459, j_1431655765, k_0, k_1, k_27, k_32, k_74, k_75, k_100, k_1000, k_65537, h_i V, ↓h_i_b V, h_p V, ↓h_p_b V, h_r1 V, ↓h_r1_b V, h_71a V, ↓h_71a_b V, h_71s V, ↓h_71s_b V, h_r2 V, ↓h_r2_b V, h_r3 V, ↓h_r3_b V, n1]
  · rw [if_neg c]
    have el := lq_for (b := B_ho_whomToAsk_18 70 (J n) h) (r := J (lw (lfb l) n : Nat)) (f := FU) (s := (J 0, J 1)) (fun k => (J (lw (lfb l) (k + 1) : Nat), J (k + 1 : Nat))) (n - 1) (by unfold FU; omega) (by have := lw_lt (lfb l) 0; rw [show lw (lfb l) (0 + 1) = 0 by omega]; rfl) (fun k hk => by
      have a1 := C_leftBy H (d := k + 1) (by omega)
      have ll := lw_lt (lfb l) k
      have a2 := C_leftBy H (d := lw (lfb l) (k + 1)) (by omega)
      have g1 := lfb_b l8 ((k + 1 : Nat) : Int)
      have g2 := lfb_b l8 ((lw (lfb l) (k + 1) : Nat) : Int)
      have e6 : lw (lfb l) (k + 1 + 1) = if lfb l ((k + 1 : Nat) : Int) < lfb l ((lw (lfb l) (k + 1) : Nat) : Int) then k + 1 else lw (lfb l) (k + 1) := rfl
      unfold B_ho_whomToAsk_18
      by_cases cc : lfb l ((k + 1 : Nat) : Int) < lfb l ((lw (lfb l) (k + 1) : Nat) : Int)
      · rw [if_pos cc] at e6
        rw [e6]
        try simp only [j_0, j_1, j_2, j_3, j_4, j_5, j_6, j_7, j_8, j_9, j_10, j_11, j_12, j_13, j_14, j_15, j_16, j_17, j_18, j_19, j_20, j_21, j_22, j_23, j_24, j_25, j_26, j_27, j_28, j_29, j_30, j_31, j_32, j_33, j_34, j_35, j_36, j_37, j_38, j_39, j_40, j_41, j_42, j_43, j_44, j_45, j_46, j_47, j_48, j_49, j_50, j_51, j_52, j_57, j_59, j_63, j_74, j_75, j_93, j_97, j_99, j_100, j_122, j_200, j_255, j_300, j_465, j_496, j_900, j_999, j_1000, j_65536, j_65537, j_99999, j_252645135, j_858993459, j_1431655765, k_0, k_1, k_27, k_32, k_74, k_75, k_100, k_1000, k_65537]
        simp (disch := first | with_reducible assumption | omega | trivial) only [↓bn_s1, ↓bd_s1, ↓ei_l1, ↓ei_r1, ↓bn_if, ↓ilt_1, ↓ilt_0, ↓ieq_1, ↓ieq_0, bn_s1, bd_s1, ei_l1, ei_r1, J_add, J_sub, J_mul, J_neg, J_lt, J_le, J_eq, dv_J, rm_J, if_pos, if_neg, ↓reduceIte, bitJ, shlJ, orJ, j_0, j_1, j_2, j_3, j_4, j_5, j_6, j_7, j_8, j_9, j_10, j_11, j_12, j_13, j_14, j_15, j_16, j_17, j_18, j_19, j_20, j_21, j_22, j_23, j_24, j_25, j_26, j_27, j_28, j_29, j_30, j_31, j_32, j_33, j_34, j_35, j_36, j_37, j_38, j_39, j_40, j_41, j_42, j_43, j_44, j_45, j_46, j_47, j_48, j_49, j_50, j_51, j_52, j_57, j_59, j_63, j_74, j_75, j_93, j_97, j_99, j_100, j_122, j_200, j_255, j_300, j_465, j_496, j_900, j_999, j_1000, j_65536, j_65537, j_99999, j_252645135, j_858993459, j_1431655765, k_0, k_1, k_27, k_32, k_74, k_75, k_100, k_1000, k_65537, ↓bn_e (a1), a1, ↓bn_e (a2), a2]
        rfl
      · rw [if_neg cc] at e6
        rw [e6]
        try simp only [j_0, j_1, j_2, j_3, j_4, j_5, j_6, j_7, j_8, j_9, j_10, j_11, j_12, j_13, j_14, j_15, j_16, j_17, j_18, j_19, j_20, j_21, j_22, j_23, j_24, j_25, j_26, j_27, j_28, j_29, j_30, j_31, j_32, j_33, j_34, j_35, j_36, j_37, j_38, j_39, j_40, j_41, j_42, j_43, j_44, j_45, j_46, j_47, j_48, j_49, j_50, j_51, j_52, j_57, j_59, j_63, j_74, j_75, j_93, j_97, j_99, j_100, j_122, j_200, j_255, j_300, j_465, j_496, j_900, j_999, j_1000, j_65536, j_65537, j_99999, j_252645135, j_858993459, j_1431655765, k_0, k_1, k_27, k_32, k_74, k_75, k_100, k_1000, k_65537]
        simp (disch := first | with_reducible assumption | omega | trivial) only [↓bn_s1, ↓bd_s1, ↓ei_l1, ↓ei_r1, ↓bn_if, ↓ilt_1, ↓ilt_0, ↓ieq_1, ↓ieq_0, bn_s1, bd_s1, ei_l1, ei_r1, J_add, J_sub, J_mul, J_neg, J_lt, J_le, J_eq, dv_J, rm_J, if_pos, if_neg, ↓reduceIte, bitJ, shlJ, orJ, j_0, j_1, j_2, j_3, j_4, j_5, j_6, j_7, j_8, j_9, j_10, j_11, j_12, j_13, j_14, j_15, j_16, j_17, j_18, j_19, j_20, j_21, j_22, j_23, j_24, j_25, j_26, j_27, j_28, j_29, j_30, j_31, j_32, j_33, j_34, j_35, j_36, j_37, j_38, j_39, j_40, j_41, j_42, j_43, j_44, j_45, j_46, j_47, j_48, j_49, j_50, j_51, j_52, j_57, j_59, j_63, j_74, j_75, j_93, j_97, j_99, j_100, j_122, j_200, j_255, j_300, j_465, j_496, j_900, j_999, j_1000, j_65536, j_65537, j_99999, j_252645135, j_858993459, j_1431655765, k_0, k_1, k_27, k_32, k_74, k_75, k_100, k_1000, k_65537, ↓bn_e (a1), a1, ↓bn_e (a2), a2]
        rfl) (by
      rw [show n - 1 + 1 = n by omega]
      unfold B_ho_whomToAsk_18
      try simp only [j_0, j_1, j_2, j_3, j_4, j_5, j_6, j_7, j_8, j_9, j_10, j_11, j_12, j_13, j_14, j_15, j_16, j_17, j_18, j_19, j_20, j_21, j_22, j_23, j_24, j_25, j_26, j_27, j_28, j_29, j_30, j_31, j_32, j_33, j_34, j_35, j_36, j_37, j_38, j_39, j_40, j_41, j_42, j_43, j_44, j_45, j_46, j_47, j_48, j_49, j_50, j_51, j_52, j_57, j_59, j_63, j_74, j_75, j_93, j_97, j_99, j_100, j_122, j_200, j_255, j_300, j_465, j_496, j_900, j_999, j_1000, j_65536, j_65537, j_99999, j_252645135, j_858993459, j_1431655765, k_0, k_1, k_27, k_32, k_74, k_75, k_100, k_1000, k_65537]
      simp (disch := first | with_reducible assumption | omega | trivial) only [↓bn_s1, ↓bd_s1, ↓ei_l1, ↓ei_r1, ↓bn_if, ↓ilt_1, ↓ilt_0, ↓ieq_1, ↓ieq_0, bn_s1, bd_s1, ei_l1, ei_r1, J_add, J_sub, J_mul, J_neg, J_lt, J_le, J_eq, dv_J, rm_J, if_pos, if_neg, ↓reduceIte, bitJ, shlJ, orJ, j_0, j_1, j_2, j_3, j_4, j_5, j_6, j_7, j_8, j_9, j_10, j_11, j_12, j_13, j_14, j_15, j_16, j_17, j_18, j_19, j_20, j_21, j_22, j_23, j_24, j_25, j_26, j_27, j_28, j_29, j_30, j_31, j_32, j_33, j_34, j_35, j_36, j_37, j_38, j_39, j_40, j_41, j_42, j_43, j_44, j_45, j_46, j_47, j_48, j_49, j_50, j_51, j_52, j_57, j_59, j_63, j_74, j_75, j_93, j_97, j_99, j_100, j_122, j_200, j_255, j_300, j_465, j_496, j_900, j_999, j_1000, j_65536, j_65537, j_99999, j_252645135, j_858993459, j_1431655765, k_0, k_1, k_27, k_32, k_74, k_75, k_100, k_1000, k_65537])
    have c1 : ¬ l.length = 0 := fun x => c (Or.inl x)
    have c2 : ¬ n = 0 := fun x => c (Or.inr x)
    try simp only [j_0, j_1, j_2, j_3, j_4, j_5, j_6, j_7, j_8, j_9, j_10, j_11, j_12, j_13, j_14, j_15, j_16, j_17, j_18, j_19, j_20, j_21, j_22, j_23, j_24, j_25, j_26, j_27, j_28, j_29, j_30, j_31, j_32, j_33, j_34, j_35, j_36, j_37, j_38, j_39, j_40, j_41, j_42, j_43, j_44, j_45, j_46, j_47, j_48, j_49, j_50, j_51, j_52, j_57, j_59, j_63, j_74, j_75, j_93, j_97, j_99, j_100, j_122, j_200, j_255, j_300, j_465, j_496, j_900, j_999, j_1000, j_65536, j_65537, j_99999, j_252645135, j_858993459, j_1431655765, k_0, k_1, k_27, k_32, k_74, k_75, k_100, k_1000, k_65537]
    simp (disch := first | with_reducible assumption | omega | trivial) only [↓bn_s1, ↓bd_s1, ↓ei_l1, ↓ei_r1, ↓bn_if, ↓ilt_1, ↓ilt_0, ↓ieq_1, ↓ieq_0, bn_s1, bd_s1, ei_l1, ei_r1, J_add, J_sub, J_mul, J_neg, J_lt, J_le, J_eq, dv_J, rm_J, if_pos, if_neg, ↓reduceIte, bitJ, shlJ, orJ, j_0, j_1, j_2, j_3, j_4, j_5, j_6, j_7, j_8, j_9, j_10, j_11, j_12, j_13, j_14, j_15, j_16, j_17, j_18, j_19, j_20, j_21, j_22, j_23, j_24, j_25, j_26, j_27, j_28, j_29, j_30, j_31, j_32, j_33, j_34, j_35, j_36, j_37, j_38, j_39, j_40, j_41, j_42, j_43, j_44, j_45, j_46, j_47, j_48, j_49, j_50, j_51, j_52, j_57, j_59, j_63, j_74, j_75, j_93, j_97, j_99, j_100, j_122, j_200, j_255, j_300, j_465, j_496, j_900, j_999, j_1000, j_65536, j_65537, j_99999, j_252645135, j_858993459, j_1431655765, k_0, k_1, k_27, k_32, k_74, k_75, k_100, k_1000, k_65537, h_i V, ↓h_i_b V, h_p V, ↓h_p_b V, h_r1 V, ↓h_r1_b V, h_71a V, ↓h_71a_b V, h_71s V, ↓h_71s_b V, h_r2 V, ↓h_r2_b V, h_r3 V, ↓h_r3_b V, n1, ↓bn_e (el), el]
