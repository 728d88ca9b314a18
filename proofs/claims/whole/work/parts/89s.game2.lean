/-! the class's game -/
def GO (L : Lk) (t : Nat) (o : Int → Int) (h : Hp) : Prop := XV t h ∧ TR L t h ∧ fi h 80 0 = L 1 0 ∧ ROw L o 80 h
def ob (L : Lk) (m : Nat) (o : Int → Int) : Prop := ∀ i, 0 ≤ i → i < L 1 0 → -90000 ≤ o i ∧ o i + 2 * m ≤ 90000
theorem ob_OB {L : Lk} {m : Nat} {o : Int → Int} (h : ob L m o) : OB L o := fun i i0 i1 => by have := h i i0 i1; omega
theorem C_dryBy {L : Lk} {t : Nat} {h : Hp} {o : Int → Int} {c : Nat} (HL : LW L) (H : GO L t o h) (ho : OB L o) (hc : c < 2 ^ rn L) : ∃ h', F_gm_dryBy 79 t (J (2 ^ rn L - 1 - (c : Nat))) h = some (J (dryO L o c), h') ∧ Fm 82 84 h h' ∧ GO L t o h' ∧ RB L c 80 h' ∧ RH L o c 80 h' := by
  obtain ⟨V, R, z, O⟩ := H
  have ox := XV_o V
  obtain ⟨h1, e1, f1, B1⟩ := C_join HL (XV_r80 V) (XV_ts V) R z hc (by omega) (by omega)
  have V1 := XV_fm f1 (by omega) V
  have z1 : fi h1 80 0 = L 1 0 := by rw [fm_fi f1 (by omega)]; exact z
  have O1 : ROw L o 80 h1 := fun i i0 i1 => by rw [fm_ia f1 (by omega)]; exact O i i0 i1
  obtain ⟨h2, e2, f2, H2⟩ := C_level HL (XV_r80 V1) z1 B1 O1 ho (by omega)
  have V2 := XV_fm f2 (by omega) V1
  have f12 : Fm 82 84 h h2 := fm_tr (fm_wd f1 (by omega) (by omega)) (fm_wd f2 (by omega) (by omega))
  have z2 : fi h2 80 0 = L 1 0 := by rw [fm_fi f12 (by omega)]; exact z
  have e3 : F_ra_dryHouses 80 h2 = some (J (dryO L o c)) := C_dryHouses HL (XV_r80 V2) z2 H2
  refine ⟨h2, ?_, f12, ⟨V2, TR_fm f12 (by omega) R, z2, fun i i0 i1 => by rw [fm_ia f12 (by omega)]; exact O i i0 i1⟩, fun i i0 i1 => by rw [fm_ia f2 (by omega)]; exact B1 i i0 i1, H2⟩
  unfold F_gm_dryBy
  rw [ck_e (GS_k (XV_g V))]
  simp (disch := first | with_reducible assumption | omega | trivial) only [↓bn_s1, ↓bd_s1, ↓ei_l1, ↓ei_r1, ↓bn_if, ↓ilt_1, ↓ilt_0, ↓ieq_1, ↓ieq_0, bn_s1, bd_s1, ei_l1, ei_r1, J_add, J_sub, J_mul, J_neg, J_lt, J_le, J_eq, dv_J, rm_J, if_pos, if_neg, ↓reduceIte, bitJ, shlJ, orJ, j_0, j_1, j_2, j_3, j_4, j_5, j_6, j_7, j_8, j_9, j_10, j_11, j_12, j_13, j_14, j_15, j_16, j_17, j_18, j_19, j_20, j_21, j_22, j_23, j_24, j_25, j_26, j_27, j_28, j_29, j_30, j_31, j_32, j_33, j_34, j_35, j_36, j_37, j_38, j_39, j_40, j_41, j_42, j_43, j_44, j_45, j_46, j_47, j_48, j_49, j_50, j_51, j_52, j_57, j_59, j_63, j_74, j_75, j_93, j_97, j_99, j_100, j_122, j_200, j_255, j_300, j_465, j_496, j_900, j_999, j_1000, j_65536, j_65537, j_99999, j_252645135, j_858993459, j_1431655765, k_0, k_1, k_27, k_32, k_74, k_75, k_100, k_1000, k_65537, g_i V, ↓g_i_b V, g_p V, ↓g_p_b V, g_r0 V, ↓g_r0_b V, ↓bn_e (e1), e1, g_i V1, ↓g_i_b V1, g_p V1, ↓g_p_b V1, g_r0 V1, ↓g_r0_b V1, ↓bn_e (e2), e2, g_i V2, ↓g_i_b V2, g_p V2, ↓g_p_b V2, g_r0 V2, ↓g_r0_b V2, ↓bn_e (e3), e3]
theorem C_mostRaised {L : Lk} {t : Nat} {h : Hp} {o : Int → Int} {c : Nat} (HL : LW L) (H : GO L t o h) (ho : OB L o) (HB : RB L c 80 h) (HH : RH L o c 80 h) : F_gm_mostRaised 79 h = some (J (mrs L o c (hn L))) := by
  obtain ⟨V, R, z, O⟩ := H
  have b1 := LW_h HL
  have hne := hn_e HL
  have el := lq_for (b := B_gm_mostRaised_4 79 h) (r := J (mrs L o c (hn L))) (f := FU) (s := (J 0, J 0)) (fun i => (J (mrs L o c i), J i)) (hn L) (by unfold FU; omega) rfl (fun i hi => by
    have hi' : (i : Int) < L 1 0 := by omega
    have v : ia h 83 i = hgo L o c i := HH i (by omega) hi'
    have hb := hgo_b HL ho c (z := i) (by omega) hi'
    have et := C_totalOf HL (XV_r80 V) z HB O (z := i) (by omega) hi'
    have es := C_sizeOf HL (XV_r80 V) HB (z := i) (by omega) hi'
    have tb := tot_b HL ho (n := hn L) (by omega) (raft L c i)
    have pz := raft_p HL c (h := i) (by omega) hi'
    have mp := mrs_p HL o c i (by omega)
    have mx := max_e (a := mrs L o c i) (b := (pc5 (raft L c i) : Nat)) (by omega) (by omega) (by omega) (by omega)
    have e6 : mrs L o c (i + 1) = if hgo L o c i < 0 ∧ 0 ≤ tot o (hn L) (raft L c i) + 2 then max (mrs L o c i) (pc5 (raft L c i) : Int) else mrs L o c i := rfl
    unfold B_gm_mostRaised_4
    by_cases g1 : hgo L o c i < 0
    · by_cases g2 : 0 ≤ tot o (hn L) (raft L c i) + 2
      · rw [if_pos ⟨g1, g2⟩] at e6
        rw [e6]
        try simp only [j_0, j_1, j_2, j_3, j_4, j_5, j_6, j_7, j_8, j_9, j_10, j_11, j_12, j_13, j_14, j_15, j_16, j_17, j_18, j_19, j_20, j_21, j_22, j_23, j_24, j_25, j_26, j_27, j_28, j_29, j_30, j_31, j_32, j_33, j_34, j_35, j_36, j_37, j_38, j_39, j_40, j_41, j_42, j_43, j_44, j_45, j_46, j_47, j_48, j_49, j_50, j_51, j_52, j_57, j_59, j_63, j_74, j_75, j_93, j_97, j_99, j_100, j_122, j_200, j_255, j_300, j_465, j_496, j_900, j_999, j_1000, j_65536, j_65537, j_99999, j_252645135, j_858993459, j_1431655765, k_0, k_1, k_27, k_32, k_74, k_75, k_100, k_1000, k_65537]
        simp (disch := first | with_reducible assumption | omega | trivial) only [↓bn_s1, ↓bd_s1, ↓ei_l1, ↓ei_r1, ↓bn_if, ↓ilt_1, ↓ilt_0, ↓ieq_1, ↓ieq_0, bn_s1, bd_s1, ei_l1, ei_r1, J_add, J_sub, J_mul, J_neg, J_lt, J_le, J_eq, dv_J, rm_J, if_pos, if_neg, ↓reduceIte, bitJ, shlJ, orJ, j_0, j_1, j_2, j_3, j_4, j_5, j_6, j_7, j_8, j_9, j_10, j_11, j_12, j_13, j_14, j_15, j_16, j_17, j_18, j_19, j_20, j_21, j_22, j_23, j_24, j_25, j_26, j_27, j_28, j_29, j_30, j_31, j_32, j_33, j_34, j_35, j_36, j_37, j_38, j_39, j_40, j_41, j_42, j_43, j_44, j_45, j_46, j_47, j_48, j_49, j_50, j_51, j_52, j_57, j_59, j_63, j_74, j_75, j_93, j_97, j_99, j_100, j_122, j_200, j_255, j_300, j_465, j_496, j_900, j_999, j_1000, j_65536, j_65537, j_99999, j_252645135, j_858993459, j_1431655765, k_0, k_1, k_27, k_32, k_74, k_75, k_100, k_1000, k_65537, g_i V, ↓g_i_b V, g_p V, ↓g_p_b V, g_r0 V, ↓g_r0_b V, rr80_1 V, ↓rr80_1_b V, r81a V, ↓r81a_b V, r81s V, ↓r81s_b V, rr80_2 V, ↓rr80_2_b V, r82a V, ↓r82a_b V, r82s V, ↓r82s_b V, rr80_3 V, ↓rr80_3_b V, r83a V, ↓r83a_b V, r83s V, ↓r83s_b V, r80i V, ↓r80i_b V, r80p V, ↓r80p_b V, z, v, ↓bn_e (et), et, ↓bn_e (es), es, ↓bn_e (mx), mx]
        rfl
      · rw [if_neg (fun x => g2 x.2)] at e6
        rw [e6]
        try simp only [j_0, j_1, j_2, j_3, j_4, j_5, j_6, j_7, j_8, j_9, j_10, j_11, j_12, j_13, j_14, j_15, j_16, j_17, j_18, j_19, j_20, j_21, j_22, j_23, j_24, j_25, j_26, j_27, j_28, j_29, j_30, j_31, j_32, j_33, j_34, j_35, j_36, j_37, j_38, j_39, j_40, j_41, j_42, j_43, j_44, j_45, j_46, j_47, j_48, j_49, j_50, j_51, j_52, j_57, j_59, j_63, j_74, j_75, j_93, j_97, j_99, j_100, j_122, j_200, j_255, j_300, j_465, j_496, j_900, j_999, j_1000, j_65536, j_65537, j_99999, j_252645135, j_858993459, j_1431655765, k_0, k_1, k_27, k_32, k_74, k_75, k_100, k_1000, k_65537]
        simp (disch := first | with_reducible assumption | omega | trivial) only [↓bn_s1, ↓bd_s1, ↓ei_l1, ↓ei_r1, ↓bn_if, ↓ilt_1, ↓ilt_0, ↓ieq_1, ↓ieq_0, bn_s1, bd_s1, ei_l1, ei_r1, J_add, J_sub, J_mul, J_neg, J_lt, J_le, J_eq, dv_J, rm_J, if_pos, if_neg, ↓reduceIte, bitJ, shlJ, orJ, j_0, j_1, j_2, j_3, j_4, j_5, j_6, j_7, j_8, j_9, j_10, j_11, j_12, j_13, j_14, j_15, j_16, j_17, j_18, j_19, j_20, j_21, j_22, j_23, j_24, j_25, j_26, j_27, j_28, j_29, j_30, j_31, j_32, j_33, j_34, j_35, j_36, j_37, j_38, j_39, j_40, j_41, j_42, j_43, j_44, j_45, j_46, j_47, j_48, j_49, j_50, j_51, j_52, j_57, j_59, j_63, j_74, j_75, j_93, j_97, j_99, j_100, j_122, j_200, j_255, j_300, j_465, j_496, j_900, j_999, j_1000, j_65536, j_65537, j_99999, j_252645135, j_858993459, j_1431655765, k_0, k_1, k_27, k_32, k_74, k_75, k_100, k_1000, k_65537, g_i V, ↓g_i_b V, g_p V, ↓g_p_b V, g_r0 V, ↓g_r0_b V, rr80_1 V, ↓rr80_1_b V, r81a V, ↓r81a_b V, r81s V, ↓r81s_b V, rr80_2 V, ↓rr80_2_b V, r82a V, ↓r82a_b V, r82s V, ↓r82s_b V, rr80_3 V, ↓rr80_3_b V, r83a V, ↓r83a_b V, r83s V, ↓r83s_b V, r80i V, ↓r80i_b V, r80p V, ↓r80p_b V, z, v, ↓bn_e (et), et]
        rfl
    · rw [if_neg (fun x => g1 x.1)] at e6
      rw [e6]
      try simp only [j_0, j_1, j_2, j_3, j_4, j_5, j_6, j_7, j_8, j_9, j_10, j_11, j_12, j_13, j_14, j_15, j_16, j_17, j_18, j_19, j_20, j_21, j_22, j_23, j_24, j_25, j_26, j_27, j_28, j_29, j_30, j_31, j_32, j_33, j_34, j_35, j_36, j_37, j_38, j_39, j_40, j_41, j_42, j_43, j_44, j_45, j_46, j_47, j_48, j_49, j_50, j_51, j_52, j_57, j_59, j_63, j_74, j_75, j_93, j_97, j_99, j_100, j_122, j_200, j_255, j_300, j_465, j_496, j_900, j_999, j_1000, j_65536, j_65537, j_99999, j_252645135, j_858993459, j_1431655765, k_0, k_1, k_27, k_32, k_74, k_75, k_100, k_1000, k_65537]
      simp (disch := first | with_reducible assumption | omega | trivial) only [↓bn_s1, ↓bd_s1, ↓ei_l1, ↓ei_r1, ↓bn_if, ↓ilt_1, ↓ilt_0, ↓ieq_1, ↓ieq_0, bn_s1, bd_s1, ei_l1, ei_r1, J_add, J_sub, J_mul, J_neg, J_lt, J_le, J_eq, dv_J, rm_J, if_pos, if_neg, ↓reduceIte, bitJ, shlJ, orJ, j_0, j_1, j_2, j_3, j_4, j_5, j_6, j_7, j_8, j_9, j_10, j_11, j_12, j_13, j_14, j_15, j_16, j_17, j_18, j_19, j_20, j_21, j_22, j_23, j_24, j_25, j_26, j_27, j_28, j_29, j_30, j_31, j_32, j_33, j_34, j_35, j_36, j_37, j_38, j_39, j_40, j_41, j_42, j_43, j_44, j_45, j_46, j_47, j_48, j_49, j_50, j_51, j_52, j_57, j_59, j_63, j_74, j_75, j_93, j_97, j_99, j_100, j_122, j_200, j_255, j_300, j_465, j_496, j_900, j_999, j_1000, j_65536, j_65537, j_99999, j_252645135, j_858993459, j_1431655765, k_0, k_1, k_27, k_32, k_74, k_75, k_100, k_1000, k_65537, g_i V, ↓g_i_b V, g_p V, ↓g_p_b V, g_r0 V, ↓g_r0_b V, rr80_1 V, ↓rr80_1_b V, r81a V, ↓r81a_b V, r81s V, ↓r81s_b V, rr80_2 V, ↓rr80_2_b V, r82a V, ↓r82a_b V, r82s V, ↓r82s_b V, rr80_3 V, ↓rr80_3_b V, r83a V, ↓r83a_b V, r83s V, ↓r83s_b V, r80i V, ↓r80i_b V, r80p V, ↓r80p_b V, z, v]
      rfl) (by
    unfold B_gm_mostRaised_4
    try simp only [j_0, j_1, j_2, j_3, j_4, j_5, j_6, j_7, j_8, j_9, j_10, j_11, j_12, j_13, j_14, j_15, j_16, j_17, j_18, j_19, j_20, j_21, j_22, j_23, j_24, j_25, j_26, j_27, j_28, j_29, j_30, j_31, j_32, j_33, j_34, j_35, j_36, j_37, j_38, j_39, j_40, j_41, j_42, j_43, j_44, j_45, j_46, j_47, j_48, j_49, j_50, j_51, j_52, j_57, j_59, j_63, j_74, j_75, j_93, j_97, j_99, j_100, j_122, j_200, j_255, j_300, j_465, j_496, j_900, j_999, j_1000, j_65536, j_65537, j_99999, j_252645135, j_858993459, j_1431655765, k_0, k_1, k_27, k_32, k_74, k_75, k_100, k_1000, k_65537]
    simp (disch := first | with_reducible assumption | omega | trivial) only [↓bn_s1, ↓bd_s1, ↓ei_l1, ↓ei_r1, ↓bn_if, ↓ilt_1, ↓ilt_0, ↓ieq_1, ↓ieq_0, bn_s1, bd_s1, ei_l1, ei_r1, J_add, J_sub, J_mul, J_neg, J_lt, J_le, J_eq, dv_J, rm_J, if_pos, if_neg, ↓reduceIte, bitJ, shlJ, orJ, j_0, j_1, j_2, j_3, j_4, j_5, j_6, j_7, j_8, j_9, j_10, j_11, j_12, j_13, j_14, j_15, j_16, j_17, j_18, j_19, j_20, j_21, j_22, j_23, j_24, j_25, j_26, j_27, j_28, j_29, j_30, j_31, j_32, j_33, j_34, j_35, j_36, j_37, j_38, j_39, j_40, j_41, j_42, j_43, j_44, j_45, j_46, j_47, j_48, j_49, j_50, j_51, j_52, j_57, j_59, j_63, j_74, j_75, j_93, j_97, j_99, j_100, j_122, j_200, j_255, j_300, j_465, j_496, j_900, j_999, j_1000, j_65536, j_65537, j_99999, j_252645135, j_858993459, j_1431655765, k_0, k_1, k_27, k_32, k_74, k_75, k_100, k_1000, k_65537, g_i V, ↓g_i_b V, g_p V, ↓g_p_b V, g_r0 V, ↓g_r0_b V, rr80_1 V, ↓rr80_1_b V, r81a V, ↓r81a_b V, r81s V, ↓r81s_b V, rr80_2 V, ↓rr80_2_b V, r82a V, ↓r82a_b V, r82s V, ↓r82s_b V, rr80_3 V, ↓rr80_3_b V, r83a V, ↓r83a_b V, r83s V, ↓r83s_b V, r80i V, ↓r80i_b V, r80p V, ↓r80p_b V, z])
  unfold F_gm_mostRaised
  rw [ck_e (GS_k (XV_g V))]
  try simp only [j_0, j_1, j_2, j_3, j_4, j_5, j_6, j_7, j_8, j_9, j_10, j_11, j_12, j_13, j_14, j_15, j_16, j_17, j_18, j_19, j_20, j_21, j_22, j_23, j_24, j_25, j_26, j_27, j_28, j_29, j_30, j_31, j_32, j_33, j_34, j_35, j_36, j_37, j_38, j_39, j_40, j_41, j_42, j_43, j_44, j_45, j_46, j_47, j_48, j_49, j_50, j_51, j_52, j_57, j_59, j_63, j_74, j_75, j_93, j_97, j_99, j_100, j_122, j_200, j_255, j_300, j_465, j_496, j_900, j_999, j_1000, j_65536, j_65537, j_99999, j_252645135, j_858993459, j_1431655765, k_0, k_1, k_27, k_32, k_74, k_75, k_100, k_1000, k_65537]
  simp (disch := first | with_reducible assumption | omega | trivial) only [↓bn_s1, ↓bd_s1, ↓ei_l1, ↓ei_r1, ↓bn_if, ↓ilt_1, ↓ilt_0, ↓ieq_1, ↓ieq_0, bn_s1, bd_s1, ei_l1, ei_r1, J_add, J_sub, J_mul, J_neg, J_lt, J_le, J_eq, dv_J, rm_J, if_pos, if_neg, ↓reduceIte, bitJ, shlJ, orJ, j_0, j_1, j_2, j_3, j_4, j_5, j_6, j_7, j_8, j_9, j_10, j_11, j_12, j_13, j_14, j_15, j_16, j_17, j_18, j_19, j_20, j_21, j_22, j_23, j_24, j_25, j_26, j_27, j_28, j_29, j_30, j_31, j_32, j_33, j_34, j_35, j_36, j_37, j_38, j_39, j_40, j_41, j_42, j_43, j_44, j_45, j_46, j_47, j_48, j_49, j_50, j_51, j_52, j_57, j_59, j_63, j_74, j_75, j_93, j_97, j_99, j_100, j_122, j_200, j_255, j_300, j_465, j_496, j_900, j_999, j_1000, j_65536, j_65537, j_99999, j_252645135, j_858993459, j_1431655765, k_0, k_1, k_27, k_32, k_74, k_75, k_100, k_1000, k_65537, ↓bn_e (el), el]
abbrev Rc : Type := Nat → Nat → Int32 → Int32 → Hp → Option (Int32 × Hp)
def KO (L : Lk) (t : Nat) (b : Bool) (rc : Rc) (M : Nat) : Prop := ∀ (m : Nat) (o : Int → Int) (c : Nat) (h : Hp), m < M → m ≤ 5 → GO L t o h → ob L m o → c < 2 ^ rn L → ∃ h', rc 79 t (J (2 ^ rn L - 1 - (c : Nat))) (J m) h = some (J (gm L m b o c), h') ∧ Fm 80 84 h h' ∧ GO L t o h'
def mxv (f : Nat → Int) : Nat → Int
  | 0 => 0
  | i + 1 => max (mxv f i) (f i)
theorem mxv_g {L : Lk} (h1 : 1 ≤ hn L) (g : Nat → Int) (g0 : ∀ i, 0 ≤ g i) : mxv g (hn L) = gmv L g := by
  have le : ∀ n : Nat, n ≤ hn L → mxv g n ≤ gmv L g := by
    intro n
    induction n with
    | zero => intro _; exact g0 _
    | succ n ih =>
      intro hn'
      have := gmv_ge h1 g n (by omega)
      have := ih (by omega)
      show max (mxv g n) (g n) ≤ gmv L g
      omega
  have ge : ∀ n i : Nat, i < n → g i ≤ mxv g n := by
    intro n
    induction n with
    | zero => intro i hi; omega
    | succ n ih =>
      intro i hi
      show g i ≤ max (mxv g n) (g n)
      by_cases e : i = n
      · rw [e]; omega
      · have := ih i (by omega); omega
  have lt := lwl (fun j => - g j.toNat) (n := hn L) h1
  have := ge (hn L) _ lt
  have := le (hn L) (Nat.le_refl _)
  unfold gmv at *
  omega
theorem mxv_b (g : Nat → Int) (gb : ∀ i, 0 ≤ g i ∧ g i ≤ 5) : ∀ n, 0 ≤ mxv g n ∧ mxv g n ≤ 5 := by
  intro n
  induction n with
  | zero => exact ⟨Int.le_refl _, by show (0 : Int) ≤ 5; omega⟩
  | succ n ih =>
    have := gb n
    show 0 ≤ max (mxv g n) (g n) ∧ max (mxv g n) (g n) ≤ 5
    omega
theorem C_village {L : Lk} {t : Nat} {rc : Rc} {M : Nat} (HL : LW L) (H1 : 1 ≤ L 1 0) (HK : KO L t true rc M) : KO L t false (G_gm_villageMoves rc) (M + 1) ∧ KO L t false (G_gm_villageMoves rc) 2 := by
  have b1 := LW_h HL
  have hne := hn_e HL
  have sm : ∀ (m : Nat) (o : Int → Int) (c : Nat) (h : Hp), m < 2 → GO L t o h → ob L m o → c < 2 ^ rn L → ∃ h', G_gm_villageMoves rc 79 t (J (2 ^ rn L - 1 - (c : Nat))) (J m) h = some (J (gm L m false o c), h') ∧ Fm 80 84 h h' ∧ GO L t o h' := by
    intro m o c h hm H ho hc
    have V := H.1
    obtain ⟨h1, e1, f1, G1, B1, H1'⟩ := C_dryBy HL H (ob_OB ho) hc
    refine ⟨h1, ?_, fm_wd f1 (by omega) (by omega), G1⟩
    unfold G_gm_villageMoves
    rw [ck_e (GS_k (XV_g V))]
    by_cases m0 : m = 0
    · subst m0
      try simp only [j_0, j_1, j_2, j_3, j_4, j_5, j_6, j_7, j_8, j_9, j_10, j_11, j_12, j_13, j_14, j_15, j_16, j_17, j_18, j_19, j_20, j_21, j_22, j_23, j_24, j_25, j_26, j_27, j_28, j_29, j_30, j_31, j_32, j_33, j_34, j_35, j_36, j_37, j_38, j_39, j_40, j_41, j_42, j_43, j_44, j_45, j_46, j_47, j_48, j_49, j_50, j_51, j_52, j_57, j_59, j_63, j_74, j_75, j_93, j_97, j_99, j_100, j_122, j_200, j_255, j_300, j_465, j_496, j_900, j_999, j_1000, j_65536, j_65537, j_99999, j_252645135, j_858993459, j_1431655765, k_0, k_1, k_27, k_32, k_74, k_75, k_100, k_1000, k_65537]
      simp (disch := first | with_reducible assumption | omega | trivial) only [↓bn_s1, ↓bd_s1, ↓ei_l1, ↓ei_r1, ↓bn_if, ↓ilt_1, ↓ilt_0, ↓ieq_1, ↓ieq_0, bn_s1, bd_s1, ei_l1, ei_r1, J_add, J_sub, J_mul, J_neg, J_lt, J_le, J_eq, dv_J, rm_J, if_pos, if_neg, ↓reduceIte, bitJ, shlJ, orJ, j_0, j_1, j_2, j_3, j_4, j_5, j_6, j_7, j_8, j_9, j_10, j_11, j_12, j_13, j_14, j_15, j_16, j_17, j_18, j_19, j_20, j_21, j_22, j_23, j_24, j_25, j_26, j_27, j_28, j_29, j_30, j_31, j_32, j_33, j_34, j_35, j_36, j_37, j_38, j_39, j_40, j_41, j_42, j_43, j_44, j_45, j_46, j_47, j_48, j_49, j_50, j_51, j_52, j_57, j_59, j_63, j_74, j_75, j_93, j_97, j_99, j_100, j_122, j_200, j_255, j_300, j_465, j_496, j_900, j_999, j_1000, j_65536, j_65537, j_99999, j_252645135, j_858993459, j_1431655765, k_0, k_1, k_27, k_32, k_74, k_75, k_100, k_1000, k_65537, ↓bd_e (e1), e1]
      rfl
    · have m1 : m = 1 := by omega
      subst m1
      have e2 := C_mostRaised HL G1 (ob_OB ho) B1 H1'
      rw [gm_1 HL H1]
      try simp only [j_0, j_1, j_2, j_3, j_4, j_5, j_6, j_7, j_8, j_9, j_10, j_11, j_12, j_13, j_14, j_15, j_16, j_17, j_18, j_19, j_20, j_21, j_22, j_23, j_24, j_25, j_26, j_27, j_28, j_29, j_30, j_31, j_32, j_33, j_34, j_35, j_36, j_37, j_38, j_39, j_40, j_41, j_42, j_43, j_44, j_45, j_46, j_47, j_48, j_49, j_50, j_51, j_52, j_57, j_59, j_63, j_74, j_75, j_93, j_97, j_99, j_100, j_122, j_200, j_255, j_300, j_465, j_496, j_900, j_999, j_1000, j_65536, j_65537, j_99999, j_252645135, j_858993459, j_1431655765, k_0, k_1, k_27, k_32, k_74, k_75, k_100, k_1000, k_65537]
      simp (disch := first | with_reducible assumption | omega | trivial) only [↓bn_s1, ↓bd_s1, ↓ei_l1, ↓ei_r1, ↓bn_if, ↓ilt_1, ↓ilt_0, ↓ieq_1, ↓ieq_0, bn_s1, bd_s1, ei_l1, ei_r1, J_add, J_sub, J_mul, J_neg, J_lt, J_le, J_eq, dv_J, rm_J, if_pos, if_neg, ↓reduceIte, bitJ, shlJ, orJ, j_0, j_1, j_2, j_3, j_4, j_5, j_6, j_7, j_8, j_9, j_10, j_11, j_12, j_13, j_14, j_15, j_16, j_17, j_18, j_19, j_20, j_21, j_22, j_23, j_24, j_25, j_26, j_27, j_28, j_29, j_30, j_31, j_32, j_33, j_34, j_35, j_36, j_37, j_38, j_39, j_40, j_41, j_42, j_43, j_44, j_45, j_46, j_47, j_48, j_49, j_50, j_51, j_52, j_57, j_59, j_63, j_74, j_75, j_93, j_97, j_99, j_100, j_122, j_200, j_255, j_300, j_465, j_496, j_900, j_999, j_1000, j_65536, j_65537, j_99999, j_252645135, j_858993459, j_1431655765, k_0, k_1, k_27, k_32, k_74, k_75, k_100, k_1000, k_65537, ↓bd_e (e1), e1, ↓bn_e (e2), e2]
  refine ⟨fun m o c h hm m5 H ho hc => ?_, fun m o c h hm m5 H ho hc => sm m o c h hm H ho hc⟩
  by_cases m2 : m < 2
  · exact sm m o c h m2 H ho hc
  · obtain ⟨k, rfl⟩ : ∃ k, m = k + 1 := ⟨m - 1, by omega⟩
    obtain ⟨g, hg⟩ : ∃ g : Nat → Int, g = fun z : Nat => gm L k true (upo o z (-2)) c := ⟨_, rfl⟩
    have gb : ∀ i, 0 ≤ g i ∧ g i ≤ 5 := fun i => by rw [hg]; exact gm_b HL k true _ c
    have eg : gm L (k + 1) false o c = mxv g (hn L) := by rw [mxv_g (by omega) g (fun i => (gb i).1), hg]; rfl
    rw [eg]
    obtain ⟨V, R, z, O⟩ := H
    have ox := XV_o V
    obtain ⟨y, h1, e1, y1, f1, G1⟩ := lp_for (b := B_gm_villageMoves_34 rc 79 t (J (2 ^ rn L - 1 - (c : Nat))) (J (k + 1 : Nat))) (f := FU) (s := (J 0, J 0)) (h := h) (fun i s h' => s = (J (mxv g i), J i) ∧ Fm 80 84 h h' ∧ GO L t o h') (fun y h' => y = J (mxv g (hn L)) ∧ Fm 80 84 h h' ∧ GO L t o h') (hn L) (by unfold FU; omega) ⟨rfl, fm_rf _ _ _, V, R, z, O⟩ (fun i s h1 hi hI => by
        obtain ⟨rfl, f1, V1, R1, z1, O1⟩ := hI
        have hi' : (i : Int) < L 1 0 := by omega
        have vi : ia h1 81 i = o i := O1 i (by omega) hi'
        have oi := ho i (by omega) hi'
        have n81 : (iA h1 81).length = 5 := RS_n1 (XV_r80 V1)
        obtain ⟨h2, hh2⟩ : ∃ h2, h2 = wA h1 81 i (o i + 2) := ⟨_, rfl⟩
        have f2 : Fm 80 84 h1 h2 := by rw [hh2]; exact fm_wA (by omega) (by omega)
        have V2 := XV_fm f2 (by omega) V1
        have O2 : ROw L (upo o i (-2)) 80 h2 := by
          intro j j0 j1
          rw [hh2]
          show ia (wA h1 81 i (o i + 2)) 81 j = _
          rw [ia_if (by omega) j0 (by omega) (by omega) (by omega)]
          unfold upo
          by_cases e : j = i
          · rw [if_pos e, if_pos e, e]; omega
          · rw [if_neg e, if_neg e]; exact O1 j j0 j1
        have ho2 : ob L k (upo o i (-2)) := by
          intro j j0 j1
          have := ho j j0 j1
          unfold upo
          by_cases e : j = i
          · rw [if_pos e]; omega
          · rw [if_neg e]; omega
        obtain ⟨h3, e3, f3, V3, R3, z3, O3⟩ := HK k (upo o i (-2)) c h2 (by omega) (by omega) ⟨V2, TR_fm f2 (by omega) R1, by rw [hh2]; exact z1, O2⟩ ho2 hc
        have eg3 : gm L k true (upo o i (-2)) c = g i := by rw [hg]
        rw [eg3] at e3
        have v3 : ia h3 81 i = o i + 2 := by
          have : ia h3 81 i = upo o i (-2) i := O3 i (by omega) hi'
          rw [this]; unfold upo; rw [if_pos rfl]; omega
        have n83 : (iA h3 81).length = 5 := RS_n1 (XV_r80 V3)
        obtain ⟨h4, hh4⟩ : ∃ h4, h4 = wA h3 81 i (o i + 2 - 2) := ⟨_, rfl⟩
        have f4 : Fm 80 84 h3 h4 := by rw [hh4]; exact fm_wA (by omega) (by omega)
        have V4 := XV_fm f4 (by omega) V3
        have O4 : ROw L o 80 h4 := by
          intro j j0 j1
          rw [hh4]
          show ia (wA h3 81 i (o i + 2 - 2)) 81 j = _
          rw [ia_if (by omega) j0 (by omega) (by omega) (by omega)]
          by_cases e : j = i
          · rw [if_pos e, e]; omega
          · rw [if_neg e]
            have : ia h3 81 j = upo o i (-2) j := O3 j j0 j1
            rw [this]; unfold upo; rw [if_neg e]
        have mb := mxv_b g gb i
        have gbi := gb i
        have mx := max_e (a := mxv g i) (b := g i) (by omega) (by omega) (by omega) (by omega)
        have ek : ((k + 1 : Nat) : Int) - 1 = (k : Nat) := by omega
        refine ⟨(J (mxv g (i + 1)), J (i + 1 : Nat)), h4, ?_, rfl, fm_tr f1 (fm_tr f2 (fm_tr f3 f4)), V4, TR_fm f4 (by omega) R3, by rw [hh4]; exact z3, O4⟩
        unfold B_gm_villageMoves_34
        try simp only [j_0, j_1, j_2, j_3, j_4, j_5, j_6, j_7, j_8, j_9, j_10, j_11, j_12, j_13, j_14, j_15, j_16, j_17, j_18, j_19, j_20, j_21, j_22, j_23, j_24, j_25, j_26, j_27, j_28, j_29, j_30, j_31, j_32, j_33, j_34, j_35, j_36, j_37, j_38, j_39, j_40, j_41, j_42, j_43, j_44, j_45, j_46, j_47, j_48, j_49, j_50, j_51, j_52, j_57, j_59, j_63, j_74, j_75, j_93, j_97, j_99, j_100, j_122, j_200, j_255, j_300, j_465, j_496, j_900, j_999, j_1000, j_65536, j_65537, j_99999, j_252645135, j_858993459, j_1431655765, k_0, k_1, k_27, k_32, k_74, k_75, k_100, k_1000, k_65537]
        simp (disch := first | with_reducible assumption | omega | trivial) only [↓bn_s1, ↓bd_s1, ↓ei_l1, ↓ei_r1, ↓bn_if, ↓ilt_1, ↓ilt_0, ↓ieq_1, ↓ieq_0, bn_s1, bd_s1, ei_l1, ei_r1, J_add, J_sub, J_mul, J_neg, J_lt, J_le, J_eq, dv_J, rm_J, if_pos, if_neg, ↓reduceIte, bitJ, shlJ, orJ, j_0, j_1, j_2, j_3, j_4, j_5, j_6, j_7, j_8, j_9, j_10, j_11, j_12, j_13, j_14, j_15, j_16, j_17, j_18, j_19, j_20, j_21, j_22, j_23, j_24, j_25, j_26, j_27, j_28, j_29, j_30, j_31, j_32, j_33, j_34, j_35, j_36, j_37, j_38, j_39, j_40, j_41, j_42, j_43, j_44, j_45, j_46, j_47, j_48, j_49, j_50, j_51, j_52, j_57, j_59, j_63, j_74, j_75, j_93, j_97, j_99, j_100, j_122, j_200, j_255, j_300, j_465, j_496, j_900, j_999, j_1000, j_65536, j_65537, j_99999, j_252645135, j_858993459, j_1431655765, k_0, k_1, k_27, k_32, k_74, k_75, k_100, k_1000, k_65537, ti_0 (XV_ts V1) R1, ↓ti_0_b (XV_ts V1) R1, ti_1 (XV_ts V1) R1, ↓ti_1_b (XV_ts V1) R1, ti_5 (XV_ts V1) R1, ↓ti_5_b (XV_ts V1) R1, ti_8 (XV_ts V1) R1, ↓ti_8_b (XV_ts V1) R1, ti_11 (XV_ts V1) R1, ↓ti_11_b (XV_ts V1) R1, ti_14 (XV_ts V1) R1, ↓ti_14_b (XV_ts V1) R1, ty_0 (XV_ts V1) R1, ↓ty_0_b (XV_ts V1) R1, ty_4 (XV_ts V1) R1, ↓ty_4_b (XV_ts V1) R1, trf_18 (XV_ts V1), ↓trf_18_b (XV_ts V1), trf_3 (XV_ts V1), ↓trf_3_b (XV_ts V1), trf_4 (XV_ts V1), ↓trf_4_b (XV_ts V1), trf_6 (XV_ts V1), ↓trf_6_b (XV_ts V1), trf_7 (XV_ts V1), ↓trf_7_b (XV_ts V1), trf_9 (XV_ts V1), ↓trf_9_b (XV_ts V1), trf_10 (XV_ts V1), ↓trf_10_b (XV_ts V1), trf_12 (XV_ts V1), ↓trf_12_b (XV_ts V1), trf_13 (XV_ts V1), ↓trf_13_b (XV_ts V1), trf_15 (XV_ts V1), ↓trf_15_b (XV_ts V1), trf_16 (XV_ts V1), ↓trf_16_b (XV_ts V1), trf_17 (XV_ts V1), ↓trf_17_b (XV_ts V1), try_1 (XV_ts V1), ↓try_1_b (XV_ts V1), try_2 (XV_ts V1), ↓try_2_b (XV_ts V1), try_3 (XV_ts V1), ↓try_3_b (XV_ts V1), try_5 (XV_ts V1), ↓try_5_b (XV_ts V1), try_6 (XV_ts V1), ↓try_6_b (XV_ts V1), ta_3 HL (XV_ts V1) R1, ↓ta_3_b HL (XV_ts V1) R1, ta_4 HL (XV_ts V1) R1, ↓ta_4_b HL (XV_ts V1) R1, ta_6 HL (XV_ts V1) R1, ↓ta_6_b HL (XV_ts V1) R1, ta_7 HL (XV_ts V1) R1, ↓ta_7_b HL (XV_ts V1) R1, ta_9 HL (XV_ts V1) R1, ↓ta_9_b HL (XV_ts V1) R1, ta_10 HL (XV_ts V1) R1, ↓ta_10_b HL (XV_ts V1) R1, ta_12 HL (XV_ts V1) R1, ↓ta_12_b HL (XV_ts V1) R1, ta_13 HL (XV_ts V1) R1, ↓ta_13_b HL (XV_ts V1) R1, ta_15 HL (XV_ts V1) R1, ↓ta_15_b HL (XV_ts V1) R1, ta_16 HL (XV_ts V1) R1, ↓ta_16_b HL (XV_ts V1) R1, ta_17 HL (XV_ts V1) R1, ↓ta_17_b HL (XV_ts V1) R1, tz_1 HL (XV_ts V1) R1, ↓tz_1_b HL (XV_ts V1) R1, tz_2 HL (XV_ts V1) R1, ↓tz_2_b HL (XV_ts V1) R1, tz_3 HL (XV_ts V1) R1, ↓tz_3_b HL (XV_ts V1) R1, tz_5 HL (XV_ts V1) R1, ↓tz_5_b HL (XV_ts V1) R1, tz_6 HL (XV_ts V1) R1, ↓tz_6_b HL (XV_ts V1) R1, g_i V1, ↓g_i_b V1, g_p V1, ↓g_p_b V1, g_r0 V1, ↓g_r0_b V1, rr80_1 V1, ↓rr80_1_b V1, r81a V1, ↓r81a_b V1, r81s V1, ↓r81s_b V1, rr80_2 V1, ↓rr80_2_b V1, r82a V1, ↓r82a_b V1, r82s V1, ↓r82s_b V1, rr80_3 V1, ↓rr80_3_b V1, r83a V1, ↓r83a_b V1, r83s V1, ↓r83s_b V1, r80i V1, ↓r80i_b V1, r80p V1, ↓r80p_b V1, vi, ← hh2, ek, ↓bd_e (e3), e3, ↓bn_e (mx), mx, g_i V3, ↓g_i_b V3, g_p V3, ↓g_p_b V3, g_r0 V3, ↓g_r0_b V3, rr80_1 V3, ↓rr80_1_b V3, r81a V3, ↓r81a_b V3, r81s V3, ↓r81s_b V3, rr80_2 V3, ↓rr80_2_b V3, r82a V3, ↓r82a_b V3, r82s V3, ↓r82s_b V3, rr80_3 V3, ↓rr80_3_b V3, r83a V3, ↓r83a_b V3, r83s V3, ↓r83s_b V3, r80i V3, ↓r80i_b V3, r80p V3, ↓r80p_b V3, v3, ← hh4]
        rfl) (fun s h1 hI => by
        obtain ⟨rfl, f1, G1⟩ := hI
        have V1 := G1.1
        have R1 := G1.2.1
        refine ⟨_, h1, ?_, rfl, f1, G1⟩
        unfold B_gm_villageMoves_34
        try simp only [j_0, j_1, j_2, j_3, j_4, j_5, j_6, j_7, j_8, j_9, j_10, j_11, j_12, j_13, j_14, j_15, j_16, j_17, j_18, j_19, j_20, j_21, j_22, j_23, j_24, j_25, j_26, j_27, j_28, j_29, j_30, j_31, j_32, j_33, j_34, j_35, j_36, j_37, j_38, j_39, j_40, j_41, j_42, j_43, j_44, j_45, j_46, j_47, j_48, j_49, j_50, j_51, j_52, j_57, j_59, j_63, j_74, j_75, j_93, j_97, j_99, j_100, j_122, j_200, j_255, j_300, j_465, j_496, j_900, j_999, j_1000, j_65536, j_65537, j_99999, j_252645135, j_858993459, j_1431655765, k_0, k_1, k_27, k_32, k_74, k_75, k_100, k_1000, k_65537]
        simp (disch := first | with_reducible assumption | omega | trivial) only [↓bn_s1, ↓bd_s1, ↓ei_l1, ↓ei_r1, ↓bn_if, ↓ilt_1, ↓ilt_0, ↓ieq_1, ↓ieq_0, bn_s1, bd_s1, ei_l1, ei_r1, J_add, J_sub, J_mul, J_neg, J_lt, J_le, J_eq, dv_J, rm_J, if_pos, if_neg, ↓reduceIte, bitJ, shlJ, orJ, j_0, j_1, j_2, j_3, j_4, j_5, j_6, j_7, j_8, j_9, j_10, j_11, j_12, j_13, j_14, j_15, j_16, j_17, j_18, j_19, j_20, j_21, j_22, j_23, j_24, j_25, j_26, j_27, j_28, j_29, j_30, j_31, j_32, j_33, j_34, j_35, j_36, j_37, j_38, j_39, j_40, j_41, j_42, j_43, j_44, j_45, j_46, j_47, j_48, j_49, j_50, j_51, j_52, j_57, j_59, j_63, j_74, j_75, j_93, j_97, j_99, j_100, j_122, j_200, j_255, j_300, j_465, j_496, j_900, j_999, j_1000, j_65536, j_65537, j_99999, j_252645135, j_858993459, j_1431655765, k_0, k_1, k_27, k_32, k_74, k_75, k_100, k_1000, k_65537, ti_0 (XV_ts V1) R1, ↓ti_0_b (XV_ts V1) R1, ti_1 (XV_ts V1) R1, ↓ti_1_b (XV_ts V1) R1, ti_5 (XV_ts V1) R1, ↓ti_5_b (XV_ts V1) R1, ti_8 (XV_ts V1) R1, ↓ti_8_b (XV_ts V1) R1, ti_11 (XV_ts V1) R1, ↓ti_11_b (XV_ts V1) R1, ti_14 (XV_ts V1) R1, ↓ti_14_b (XV_ts V1) R1, ty_0 (XV_ts V1) R1, ↓ty_0_b (XV_ts V1) R1, ty_4 (XV_ts V1) R1, ↓ty_4_b (XV_ts V1) R1, trf_18 (XV_ts V1), ↓trf_18_b (XV_ts V1), trf_3 (XV_ts V1), ↓trf_3_b (XV_ts V1), trf_4 (XV_ts V1), ↓trf_4_b (XV_ts V1), trf_6 (XV_ts V1), ↓trf_6_b (XV_ts V1), trf_7 (XV_ts V1), ↓trf_7_b (XV_ts V1), trf_9 (XV_ts V1), ↓trf_9_b (XV_ts V1), trf_10 (XV_ts V1), ↓trf_10_b (XV_ts V1), trf_12 (XV_ts V1), ↓trf_12_b (XV_ts V1), trf_13 (XV_ts V1), ↓trf_13_b (XV_ts V1), trf_15 (XV_ts V1), ↓trf_15_b (XV_ts V1), trf_16 (XV_ts V1), ↓trf_16_b (XV_ts V1), trf_17 (XV_ts V1), ↓trf_17_b (XV_ts V1), try_1 (XV_ts V1), ↓try_1_b (XV_ts V1), try_2 (XV_ts V1), ↓try_2_b (XV_ts V1), try_3 (XV_ts V1), ↓try_3_b (XV_ts V1), try_5 (XV_ts V1), ↓try_5_b (XV_ts V1), try_6 (XV_ts V1), ↓try_6_b (XV_ts V1), ta_3 HL (XV_ts V1) R1, ↓ta_3_b HL (XV_ts V1) R1, ta_4 HL (XV_ts V1) R1, ↓ta_4_b HL (XV_ts V1) R1, ta_6 HL (XV_ts V1) R1, ↓ta_6_b HL (XV_ts V1) R1, ta_7 HL (XV_ts V1) R1, ↓ta_7_b HL (XV_ts V1) R1, ta_9 HL (XV_ts V1) R1, ↓ta_9_b HL (XV_ts V1) R1, ta_10 HL (XV_ts V1) R1, ↓ta_10_b HL (XV_ts V1) R1, ta_12 HL (XV_ts V1) R1, ↓ta_12_b HL (XV_ts V1) R1, ta_13 HL (XV_ts V1) R1, ↓ta_13_b HL (XV_ts V1) R1, ta_15 HL (XV_ts V1) R1, ↓ta_15_b HL (XV_ts V1) R1, ta_16 HL (XV_ts V1) R1, ↓ta_16_b HL (XV_ts V1) R1, ta_17 HL (XV_ts V1) R1, ↓ta_17_b HL (XV_ts V1) R1, tz_1 HL (XV_ts V1) R1, ↓tz_1_b HL (XV_ts V1) R1, tz_2 HL (XV_ts V1) R1, ↓tz_2_b HL (XV_ts V1) R1, tz_3 HL (XV_ts V1) R1, ↓tz_3_b HL (XV_ts V1) R1, tz_5 HL (XV_ts V1) R1, ↓tz_5_b HL (XV_ts V1) R1, tz_6 HL (XV_ts V1) R1, ↓tz_6_b HL (XV_ts V1) R1])
    refine ⟨h1, ?_, f1, G1⟩
    unfold G_gm_villageMoves
    rw [ck_e (GS_k (XV_g V))]
    try simp only [j_0, j_1, j_2, j_3, j_4, j_5, j_6, j_7, j_8, j_9, j_10, j_11, j_12, j_13, j_14, j_15, j_16, j_17, j_18, j_19, j_20, j_21, j_22, j_23, j_24, j_25, j_26, j_27, j_28, j_29, j_30, j_31, j_32, j_33, j_34, j_35, j_36, j_37, j_38, j_39, j_40, j_41, j_42, j_43, j_44, j_45, j_46, j_47, j_48, j_49, j_50, j_51, j_52, j_57, j_59, j_63, j_74, j_75, j_93, j_97, j_99, j_100, j_122, j_200, j_255, j_300, j_465, j_496, j_900, j_999, j_1000, j_65536, j_65537, j_99999, j_252645135, j_858993459, j_1431655765, k_0, k_1, k_27, k_32, k_74, k_75, k_100, k_1000, k_65537]
    simp (disch := first | with_reducible assumption | omega | trivial) only [↓bn_s1, ↓bd_s1, ↓ei_l1, ↓ei_r1, ↓bn_if, ↓ilt_1, ↓ilt_0, ↓ieq_1, ↓ieq_0, bn_s1, bd_s1, ei_l1, ei_r1, J_add, J_sub, J_mul, J_neg, J_lt, J_le, J_eq, dv_J, rm_J, if_pos, if_neg, ↓reduceIte, bitJ, shlJ, orJ, j_0, j_1, j_2, j_3, j_4, j_5, j_6, j_7, j_8, j_9, j_10, j_11, j_12, j_13, j_14, j_15, j_16, j_17, j_18, j_19, j_20, j_21, j_22, j_23, j_24, j_25, j_26, j_27, j_28, j_29, j_30, j_31, j_32, j_33, j_34, j_35, j_36, j_37, j_38, j_39, j_40, j_41, j_42, j_43, j_44, j_45, j_46, j_47, j_48, j_49, j_50, j_51, j_52, j_57, j_59, j_63, j_74, j_75, j_93, j_97, j_99, j_100, j_122, j_200, j_255, j_300, j_465, j_496, j_900, j_999, j_1000, j_65536, j_65537, j_99999, j_252645135, j_858993459, j_1431655765, k_0, k_1, k_27, k_32, k_74, k_75, k_100, k_1000, k_65537, ↓bd_e (e1), e1, y1]
theorem C_king {L : Lk} {t : Nat} {rc : Rc} {M : Nat} (HL : LW L) (HV : KO L t false (G_gm_villageMoves rc) M) : KO L t true (G_gm_kingMoves rc) (M + 1) := by
  intro m o c h hm m5 H ho hc
  have b2 := LW_r HL
  have rne := rn_e HL
  have V := H.1
  have ox := XV_o V
  unfold G_gm_kingMoves
  rw [ck_e (GS_k (XV_g V))]
  by_cases m0 : m = 0
  · subst m0
    obtain ⟨h1, e1, f1, G1, B1, H1⟩ := C_dryBy HL H (ob_OB ho) hc
    refine ⟨h1, ?_, fm_wd f1 (by omega) (by omega), G1⟩
    try simp only [j_0, j_1, j_2, j_3, j_4, j_5, j_6, j_7, j_8, j_9, j_10, j_11, j_12, j_13, j_14, j_15, j_16, j_17, j_18, j_19, j_20, j_21, j_22, j_23, j_24, j_25, j_26, j_27, j_28, j_29, j_30, j_31, j_32, j_33, j_34, j_35, j_36, j_37, j_38, j_39, j_40, j_41, j_42, j_43, j_44, j_45, j_46, j_47, j_48, j_49, j_50, j_51, j_52, j_57, j_59, j_63, j_74, j_75, j_93, j_97, j_99, j_100, j_122, j_200, j_255, j_300, j_465, j_496, j_900, j_999, j_1000, j_65536, j_65537, j_99999, j_252645135, j_858993459, j_1431655765, k_0, k_1, k_27, k_32, k_74, k_75, k_100, k_1000, k_65537]
    simp (disch := first | with_reducible assumption | omega | trivial) only [↓bn_s1, ↓bd_s1, ↓ei_l1, ↓ei_r1, ↓bn_if, ↓ilt_1, ↓ilt_0, ↓ieq_1, ↓ieq_0, bn_s1, bd_s1, ei_l1, ei_r1, J_add, J_sub, J_mul, J_neg, J_lt, J_le, J_eq, dv_J, rm_J, if_pos, if_neg, ↓reduceIte, bitJ, shlJ, orJ, j_0, j_1, j_2, j_3, j_4, j_5, j_6, j_7, j_8, j_9, j_10, j_11, j_12, j_13, j_14, j_15, j_16, j_17, j_18, j_19, j_20, j_21, j_22, j_23, j_24, j_25, j_26, j_27, j_28, j_29, j_30, j_31, j_32, j_33, j_34, j_35, j_36, j_37, j_38, j_39, j_40, j_41, j_42, j_43, j_44, j_45, j_46, j_47, j_48, j_49, j_50, j_51, j_52, j_57, j_59, j_63, j_74, j_75, j_93, j_97, j_99, j_100, j_122, j_200, j_255, j_300, j_465, j_496, j_900, j_999, j_1000, j_65536, j_65537, j_99999, j_252645135, j_858993459, j_1431655765, k_0, k_1, k_27, k_32, k_74, k_75, k_100, k_1000, k_65537, ↓bd_e (e1), e1]
    rfl
  · obtain ⟨k, rfl⟩ : ∃ k, m = k + 1 := ⟨m - 1, by omega⟩
    obtain ⟨g, hg⟩ : ∃ g : Nat → Int, g = fun j => gm L k false o (cjc c j) := ⟨_, rfl⟩
    obtain ⟨f, hf⟩ : ∃ f : Int → Int, f = fun j => g j.toNat := ⟨_, rfl⟩
    have fg : ∀ i : Nat, f i = g i := fun i => by rw [hf]; show g ((i : Int).toNat) = g i; rw [Int.toNat_natCast]
    have gb : ∀ i, 0 ≤ g i ∧ g i ≤ 5 := fun i => by rw [hg]; exact gm_b HL k false _ _
    have eg : gm L (k + 1) true o c = f (lw f (rn L + 1) : Nat) := by rw [fg, hf]; show gmk L _ = _; rw [← hg]; rfl
    rw [eg]
    have hok : ob L k o := fun i i0 i1 => by have := ho i i0 i1; omega
    obtain ⟨h1, e1, f1, G1⟩ := HV k o c h (by omega) (by omega) H hok hc
    have eg1 : gm L k false o c = f ((0 : Nat) : Int) := by rw [fg, hg]; rfl
    rw [eg1] at e1
    have ek : ((k + 1 : Nat) : Int) - 1 = (k : Nat) := by omega
    have lw01 : lw f (0 + 1) = 0 := by have := lw_lt f 0; omega
    obtain ⟨y, h2, e2, y2, f2, G2⟩ := lp_for (b := B_gm_kingMoves_25 rc 79 t (J (2 ^ rn L - 1 - (c : Nat))) (J (k + 1 : Nat))) (f := FU) (s := (J (f ((0 : Nat) : Int)), J 0)) (h := h1) (fun i s h' => s = (J (f (lw f (i + 1) : Nat)), J i) ∧ Fm 80 84 h h' ∧ GO L t o h') (fun y h' => y = J (f (lw f (rn L + 1) : Nat)) ∧ Fm 80 84 h h' ∧ GO L t o h') (rn L) (by unfold FU; omega) ⟨by rw [lw01]; rfl, f1, G1⟩ (fun i s h2 hi hI => by
        obtain ⟨rfl, f2, G2⟩ := hI
        have V2 := G2.1
        have R2 := G2.2.1
        have tj := tieJ HL hc (k := i) (by omega)
        have lm := lw_min (f := f) i
        have ll := lw_lt f i
        have e6 : lw f (i + 1 + 1) = if f ((i + 1 : Nat) : Int) < f (lw f (i + 1) : Nat) then i + 1 else lw f (i + 1) := rfl
        by_cases cb : c.testBit i = true
        · rw [if_pos cb] at tj
          have ec : f ((i + 1 : Nat) : Int) = f ((0 : Nat) : Int) := by
            rw [fg, fg, hg]
            show gm L k false o (cjc c (i + 1)) = gm L k false o (cjc c 0)
            unfold cjc
            rw [if_neg (by omega), if_pos rfl]
            have : i + 1 - 1 = i := by omega
            rw [this, or_same cb]
          have l0 := (lm 0 (by omega)).1
          rw [if_neg (by omega)] at e6
          refine ⟨(J (f (lw f (i + 1) : Nat)), J (i + 1 : Nat)), h2, ?_, by rw [e6], f2, G2⟩
          unfold B_gm_kingMoves_25
          try simp only [j_0, j_1, j_2, j_3, j_4, j_5, j_6, j_7, j_8, j_9, j_10, j_11, j_12, j_13, j_14, j_15, j_16, j_17, j_18, j_19, j_20, j_21, j_22, j_23, j_24, j_25, j_26, j_27, j_28, j_29, j_30, j_31, j_32, j_33, j_34, j_35, j_36, j_37, j_38, j_39, j_40, j_41, j_42, j_43, j_44, j_45, j_46, j_47, j_48, j_49, j_50, j_51, j_52, j_57, j_59, j_63, j_74, j_75, j_93, j_97, j_99, j_100, j_122, j_200, j_255, j_300, j_465, j_496, j_900, j_999, j_1000, j_65536, j_65537, j_99999, j_252645135, j_858993459, j_1431655765, k_0, k_1, k_27, k_32, k_74, k_75, k_100, k_1000, k_65537]
          simp (disch := first | with_reducible assumption | omega | trivial) only [↓bn_s1, ↓bd_s1, ↓ei_l1, ↓ei_r1, ↓bn_if, ↓ilt_1, ↓ilt_0, ↓ieq_1, ↓ieq_0, bn_s1, bd_s1, ei_l1, ei_r1, J_add, J_sub, J_mul, J_neg, J_lt, J_le, J_eq, dv_J, rm_J, if_pos, if_neg, ↓reduceIte, bitJ, shlJ, orJ, j_0, j_1, j_2, j_3, j_4, j_5, j_6, j_7, j_8, j_9, j_10, j_11, j_12, j_13, j_14, j_15, j_16, j_17, j_18, j_19, j_20, j_21, j_22, j_23, j_24, j_25, j_26, j_27, j_28, j_29, j_30, j_31, j_32, j_33, j_34, j_35, j_36, j_37, j_38, j_39, j_40, j_41, j_42, j_43, j_44, j_45, j_46, j_47, j_48, j_49, j_50, j_51, j_52, j_57, j_59, j_63, j_74, j_75, j_93, j_97, j_99, j_100, j_122, j_200, j_255, j_300, j_465, j_496, j_900, j_999, j_1000, j_65536, j_65537, j_99999, j_252645135, j_858993459, j_1431655765, k_0, k_1, k_27, k_32, k_74, k_75, k_100, k_1000, k_65537, ti_0 (XV_ts V2) R2, ↓ti_0_b (XV_ts V2) R2, ti_1 (XV_ts V2) R2, ↓ti_1_b (XV_ts V2) R2, ti_5 (XV_ts V2) R2, ↓ti_5_b (XV_ts V2) R2, ti_8 (XV_ts V2) R2, ↓ti_8_b (XV_ts V2) R2, ti_11 (XV_ts V2) R2, ↓ti_11_b (XV_ts V2) R2, ti_14 (XV_ts V2) R2, ↓ti_14_b (XV_ts V2) R2, ty_0 (XV_ts V2) R2, ↓ty_0_b (XV_ts V2) R2, ty_4 (XV_ts V2) R2, ↓ty_4_b (XV_ts V2) R2, trf_18 (XV_ts V2), ↓trf_18_b (XV_ts V2), trf_3 (XV_ts V2), ↓trf_3_b (XV_ts V2), trf_4 (XV_ts V2), ↓trf_4_b (XV_ts V2), trf_6 (XV_ts V2), ↓trf_6_b (XV_ts V2), trf_7 (XV_ts V2), ↓trf_7_b (XV_ts V2), trf_9 (XV_ts V2), ↓trf_9_b (XV_ts V2), trf_10 (XV_ts V2), ↓trf_10_b (XV_ts V2), trf_12 (XV_ts V2), ↓trf_12_b (XV_ts V2), trf_13 (XV_ts V2), ↓trf_13_b (XV_ts V2), trf_15 (XV_ts V2), ↓trf_15_b (XV_ts V2), trf_16 (XV_ts V2), ↓trf_16_b (XV_ts V2), trf_17 (XV_ts V2), ↓trf_17_b (XV_ts V2), try_1 (XV_ts V2), ↓try_1_b (XV_ts V2), try_2 (XV_ts V2), ↓try_2_b (XV_ts V2), try_3 (XV_ts V2), ↓try_3_b (XV_ts V2), try_5 (XV_ts V2), ↓try_5_b (XV_ts V2), try_6 (XV_ts V2), ↓try_6_b (XV_ts V2), ta_3 HL (XV_ts V2) R2, ↓ta_3_b HL (XV_ts V2) R2, ta_4 HL (XV_ts V2) R2, ↓ta_4_b HL (XV_ts V2) R2, ta_6 HL (XV_ts V2) R2, ↓ta_6_b HL (XV_ts V2) R2, ta_7 HL (XV_ts V2) R2, ↓ta_7_b HL (XV_ts V2) R2, ta_9 HL (XV_ts V2) R2, ↓ta_9_b HL (XV_ts V2) R2, ta_10 HL (XV_ts V2) R2, ↓ta_10_b HL (XV_ts V2) R2, ta_12 HL (XV_ts V2) R2, ↓ta_12_b HL (XV_ts V2) R2, ta_13 HL (XV_ts V2) R2, ↓ta_13_b HL (XV_ts V2) R2, ta_15 HL (XV_ts V2) R2, ↓ta_15_b HL (XV_ts V2) R2, ta_16 HL (XV_ts V2) R2, ↓ta_16_b HL (XV_ts V2) R2, ta_17 HL (XV_ts V2) R2, ↓ta_17_b HL (XV_ts V2) R2, tz_1 HL (XV_ts V2) R2, ↓tz_1_b HL (XV_ts V2) R2, tz_2 HL (XV_ts V2) R2, ↓tz_2_b HL (XV_ts V2) R2, tz_3 HL (XV_ts V2) R2, ↓tz_3_b HL (XV_ts V2) R2, tz_5 HL (XV_ts V2) R2, ↓tz_5_b HL (XV_ts V2) R2, tz_6 HL (XV_ts V2) R2, ↓tz_6_b HL (XV_ts V2) R2, tj]
          rfl
        · rw [if_neg cb] at tj
          have hl := or_lt (rn L) (by omega) c hc i hi
          have tc := tieC (rn L) (by omega) c hc i hi
          rw [shlJ (by omega)] at tc
          obtain ⟨h3, e3, f3, G3⟩ := HV k o (c ||| 2 ^ i) h2 (by omega) (by omega) G2 hok hl
          have ec : gm L k false o (c ||| 2 ^ i) = f ((i + 1 : Nat) : Int) := by
            rw [fg, hg]
            show _ = gm L k false o (cjc c (i + 1))
            unfold cjc
            rw [if_neg (by omega)]
            have : i + 1 - 1 = i := by omega
            rw [this]
          rw [ec] at e3
          have g1 := gb (i + 1)
          have g2 := gb (lw f (i + 1))
          rw [← fg] at g1 g2
          have mn := min_e (a := f (lw f (i + 1) : Nat)) (b := f ((i + 1 : Nat) : Int)) (by omega) (by omega) (by omega) (by omega)
          have em : min (f (lw f (i + 1) : Nat)) (f ((i + 1 : Nat) : Int)) = f (lw f (i + 1 + 1) : Nat) := by
            rw [e6]
            by_cases d : f ((i + 1 : Nat) : Int) < f (lw f (i + 1) : Nat)
            · rw [if_pos d]; omega
            · rw [if_neg d]; omega
          rw [em] at mn
          refine ⟨(J (f (lw f (i + 1 + 1) : Nat)), J (i + 1 : Nat)), h3, ?_, rfl, fm_tr f2 f3, G3⟩
          unfold B_gm_kingMoves_25
          rw [jm1]
          try simp only [j_0, j_1, j_2, j_3, j_4, j_5, j_6, j_7, j_8, j_9, j_10, j_11, j_12, j_13, j_14, j_15, j_16, j_17, j_18, j_19, j_20, j_21, j_22, j_23, j_24, j_25, j_26, j_27, j_28, j_29, j_30, j_31, j_32, j_33, j_34, j_35, j_36, j_37, j_38, j_39, j_40, j_41, j_42, j_43, j_44, j_45, j_46, j_47, j_48, j_49, j_50, j_51, j_52, j_57, j_59, j_63, j_74, j_75, j_93, j_97, j_99, j_100, j_122, j_200, j_255, j_300, j_465, j_496, j_900, j_999, j_1000, j_65536, j_65537, j_99999, j_252645135, j_858993459, j_1431655765, k_0, k_1, k_27, k_32, k_74, k_75, k_100, k_1000, k_65537]
          simp (disch := first | with_reducible assumption | omega | trivial) only [↓bn_s1, ↓bd_s1, ↓ei_l1, ↓ei_r1, ↓bn_if, ↓ilt_1, ↓ilt_0, ↓ieq_1, ↓ieq_0, bn_s1, bd_s1, ei_l1, ei_r1, J_add, J_sub, J_mul, J_neg, J_lt, J_le, J_eq, dv_J, rm_J, if_pos, if_neg, ↓reduceIte, bitJ, shlJ, orJ, j_0, j_1, j_2, j_3, j_4, j_5, j_6, j_7, j_8, j_9, j_10, j_11, j_12, j_13, j_14, j_15, j_16, j_17, j_18, j_19, j_20, j_21, j_22, j_23, j_24, j_25, j_26, j_27, j_28, j_29, j_30, j_31, j_32, j_33, j_34, j_35, j_36, j_37, j_38, j_39, j_40, j_41, j_42, j_43, j_44, j_45, j_46, j_47, j_48, j_49, j_50, j_51, j_52, j_57, j_59, j_63, j_74, j_75, j_93, j_97, j_99, j_100, j_122, j_200, j_255, j_300, j_465, j_496, j_900, j_999, j_1000, j_65536, j_65537, j_99999, j_252645135, j_858993459, j_1431655765, k_0, k_1, k_27, k_32, k_74, k_75, k_100, k_1000, k_65537, ti_0 (XV_ts V2) R2, ↓ti_0_b (XV_ts V2) R2, ti_1 (XV_ts V2) R2, ↓ti_1_b (XV_ts V2) R2, ti_5 (XV_ts V2) R2, ↓ti_5_b (XV_ts V2) R2, ti_8 (XV_ts V2) R2, ↓ti_8_b (XV_ts V2) R2, ti_11 (XV_ts V2) R2, ↓ti_11_b (XV_ts V2) R2, ti_14 (XV_ts V2) R2, ↓ti_14_b (XV_ts V2) R2, ty_0 (XV_ts V2) R2, ↓ty_0_b (XV_ts V2) R2, ty_4 (XV_ts V2) R2, ↓ty_4_b (XV_ts V2) R2, trf_18 (XV_ts V2), ↓trf_18_b (XV_ts V2), trf_3 (XV_ts V2), ↓trf_3_b (XV_ts V2), trf_4 (XV_ts V2), ↓trf_4_b (XV_ts V2), trf_6 (XV_ts V2), ↓trf_6_b (XV_ts V2), trf_7 (XV_ts V2), ↓trf_7_b (XV_ts V2), trf_9 (XV_ts V2), ↓trf_9_b (XV_ts V2), trf_10 (XV_ts V2), ↓trf_10_b (XV_ts V2), trf_12 (XV_ts V2), ↓trf_12_b (XV_ts V2), trf_13 (XV_ts V2), ↓trf_13_b (XV_ts V2), trf_15 (XV_ts V2), ↓trf_15_b (XV_ts V2), trf_16 (XV_ts V2), ↓trf_16_b (XV_ts V2), trf_17 (XV_ts V2), ↓trf_17_b (XV_ts V2), try_1 (XV_ts V2), ↓try_1_b (XV_ts V2), try_2 (XV_ts V2), ↓try_2_b (XV_ts V2), try_3 (XV_ts V2), ↓try_3_b (XV_ts V2), try_5 (XV_ts V2), ↓try_5_b (XV_ts V2), try_6 (XV_ts V2), ↓try_6_b (XV_ts V2), ta_3 HL (XV_ts V2) R2, ↓ta_3_b HL (XV_ts V2) R2, ta_4 HL (XV_ts V2) R2, ↓ta_4_b HL (XV_ts V2) R2, ta_6 HL (XV_ts V2) R2, ↓ta_6_b HL (XV_ts V2) R2, ta_7 HL (XV_ts V2) R2, ↓ta_7_b HL (XV_ts V2) R2, ta_9 HL (XV_ts V2) R2, ↓ta_9_b HL (XV_ts V2) R2, ta_10 HL (XV_ts V2) R2, ↓ta_10_b HL (XV_ts V2) R2, ta_12 HL (XV_ts V2) R2, ↓ta_12_b HL (XV_ts V2) R2, ta_13 HL (XV_ts V2) R2, ↓ta_13_b HL (XV_ts V2) R2, ta_15 HL (XV_ts V2) R2, ↓ta_15_b HL (XV_ts V2) R2, ta_16 HL (XV_ts V2) R2, ↓ta_16_b HL (XV_ts V2) R2, ta_17 HL (XV_ts V2) R2, ↓ta_17_b HL (XV_ts V2) R2, tz_1 HL (XV_ts V2) R2, ↓tz_1_b HL (XV_ts V2) R2, tz_2 HL (XV_ts V2) R2, ↓tz_2_b HL (XV_ts V2) R2, tz_3 HL (XV_ts V2) R2, ↓tz_3_b HL (XV_ts V2) R2, tz_5 HL (XV_ts V2) R2, ↓tz_5_b HL (XV_ts V2) R2, tz_6 HL (XV_ts V2) R2, ↓tz_6_b HL (XV_ts V2) R2, tj, tc, ek, ↓bd_e (e3), e3, ↓bn_e (mn), mn]
          rfl) (fun s h2 hI => by
        obtain ⟨rfl, f2, G2⟩ := hI
        have V2 := G2.1
        have R2 := G2.2.1
        refine ⟨_, h2, ?_, rfl, f2, G2⟩
        unfold B_gm_kingMoves_25
        try simp only [j_0, j_1, j_2, j_3, j_4, j_5, j_6, j_7, j_8, j_9, j_10, j_11, j_12, j_13, j_14, j_15, j_16, j_17, j_18, j_19, j_20, j_21, j_22, j_23, j_24, j_25, j_26, j_27, j_28, j_29, j_30, j_31, j_32, j_33, j_34, j_35, j_36, j_37, j_38, j_39, j_40, j_41, j_42, j_43, j_44, j_45, j_46, j_47, j_48, j_49, j_50, j_51, j_52, j_57, j_59, j_63, j_74, j_75, j_93, j_97, j_99, j_100, j_122, j_200, j_255, j_300, j_465, j_496, j_900, j_999, j_1000, j_65536, j_65537, j_99999, j_252645135, j_858993459, j_1431655765, k_0, k_1, k_27, k_32, k_74, k_75, k_100, k_1000, k_65537]
        simp (disch := first | with_reducible assumption | omega | trivial) only [↓bn_s1, ↓bd_s1, ↓ei_l1, ↓ei_r1, ↓bn_if, ↓ilt_1, ↓ilt_0, ↓ieq_1, ↓ieq_0, bn_s1, bd_s1, ei_l1, ei_r1, J_add, J_sub, J_mul, J_neg, J_lt, J_le, J_eq, dv_J, rm_J, if_pos, if_neg, ↓reduceIte, bitJ, shlJ, orJ, j_0, j_1, j_2, j_3, j_4, j_5, j_6, j_7, j_8, j_9, j_10, j_11, j_12, j_13, j_14, j_15, j_16, j_17, j_18, j_19, j_20, j_21, j_22, j_23, j_24, j_25, j_26, j_27, j_28, j_29, j_30, j_31, j_32, j_33, j_34, j_35, j_36, j_37, j_38, j_39, j_40, j_41, j_42, j_43, j_44, j_45, j_46, j_47, j_48, j_49, j_50, j_51, j_52, j_57, j_59, j_63, j_74, j_75, j_93, j_97, j_99, j_100, j_122, j_200, j_255, j_300, j_465, j_496, j_900, j_999, j_1000, j_65536, j_65537, j_99999, j_252645135, j_858993459, j_1431655765, k_0, k_1, k_27, k_32, k_74, k_75, k_100, k_1000, k_65537, ti_0 (XV_ts V2) R2, ↓ti_0_b (XV_ts V2) R2, ti_1 (XV_ts V2) R2, ↓ti_1_b (XV_ts V2) R2, ti_5 (XV_ts V2) R2, ↓ti_5_b (XV_ts V2) R2, ti_8 (XV_ts V2) R2, ↓ti_8_b (XV_ts V2) R2, ti_11 (XV_ts V2) R2, ↓ti_11_b (XV_ts V2) R2, ti_14 (XV_ts V2) R2, ↓ti_14_b (XV_ts V2) R2, ty_0 (XV_ts V2) R2, ↓ty_0_b (XV_ts V2) R2, ty_4 (XV_ts V2) R2, ↓ty_4_b (XV_ts V2) R2, trf_18 (XV_ts V2), ↓trf_18_b (XV_ts V2), trf_3 (XV_ts V2), ↓trf_3_b (XV_ts V2), trf_4 (XV_ts V2), ↓trf_4_b (XV_ts V2), trf_6 (XV_ts V2), ↓trf_6_b (XV_ts V2), trf_7 (XV_ts V2), ↓trf_7_b (XV_ts V2), trf_9 (XV_ts V2), ↓trf_9_b (XV_ts V2), trf_10 (XV_ts V2), ↓trf_10_b (XV_ts V2), trf_12 (XV_ts V2), ↓trf_12_b (XV_ts V2), trf_13 (XV_ts V2), ↓trf_13_b (XV_ts V2), trf_15 (XV_ts V2), ↓trf_15_b (XV_ts V2), trf_16 (XV_ts V2), ↓trf_16_b (XV_ts V2), trf_17 (XV_ts V2), ↓trf_17_b (XV_ts V2), try_1 (XV_ts V2), ↓try_1_b (XV_ts V2), try_2 (XV_ts V2), ↓try_2_b (XV_ts V2), try_3 (XV_ts V2), ↓try_3_b (XV_ts V2), try_5 (XV_ts V2), ↓try_5_b (XV_ts V2), try_6 (XV_ts V2), ↓try_6_b (XV_ts V2), ta_3 HL (XV_ts V2) R2, ↓ta_3_b HL (XV_ts V2) R2, ta_4 HL (XV_ts V2) R2, ↓ta_4_b HL (XV_ts V2) R2, ta_6 HL (XV_ts V2) R2, ↓ta_6_b HL (XV_ts V2) R2, ta_7 HL (XV_ts V2) R2, ↓ta_7_b HL (XV_ts V2) R2, ta_9 HL (XV_ts V2) R2, ↓ta_9_b HL (XV_ts V2) R2, ta_10 HL (XV_ts V2) R2, ↓ta_10_b HL (XV_ts V2) R2, ta_12 HL (XV_ts V2) R2, ↓ta_12_b HL (XV_ts V2) R2, ta_13 HL (XV_ts V2) R2, ↓ta_13_b HL (XV_ts V2) R2, ta_15 HL (XV_ts V2) R2, ↓ta_15_b HL (XV_ts V2) R2, ta_16 HL (XV_ts V2) R2, ↓ta_16_b HL (XV_ts V2) R2, ta_17 HL (XV_ts V2) R2, ↓ta_17_b HL (XV_ts V2) R2, tz_1 HL (XV_ts V2) R2, ↓tz_1_b HL (XV_ts V2) R2, tz_2 HL (XV_ts V2) R2, ↓tz_2_b HL (XV_ts V2) R2, tz_3 HL (XV_ts V2) R2, ↓tz_3_b HL (XV_ts V2) R2, tz_5 HL (XV_ts V2) R2, ↓tz_5_b HL (XV_ts V2) R2, tz_6 HL (XV_ts V2) R2, ↓tz_6_b HL (XV_ts V2) R2])
    refine ⟨h2, ?_, f2, G2⟩
    try simp only [j_0, j_1, j_2, j_3, j_4, j_5, j_6, j_7, j_8, j_9, j_10, j_11, j_12, j_13, j_14, j_15, j_16, j_17, j_18, j_19, j_20, j_21, j_22, j_23, j_24, j_25, j_26, j_27, j_28, j_29, j_30, j_31, j_32, j_33, j_34, j_35, j_36, j_37, j_38, j_39, j_40, j_41, j_42, j_43, j_44, j_45, j_46, j_47, j_48, j_49, j_50, j_51, j_52, j_57, j_59, j_63, j_74, j_75, j_93, j_97, j_99, j_100, j_122, j_200, j_255, j_300, j_465, j_496, j_900, j_999, j_1000, j_65536, j_65537, j_99999, j_252645135, j_858993459, j_1431655765, k_0, k_1, k_27, k_32, k_74, k_75, k_100, k_1000, k_65537]
    simp (disch := first | with_reducible assumption | omega | trivial) only [↓bn_s1, ↓bd_s1, ↓ei_l1, ↓ei_r1, ↓bn_if, ↓ilt_1, ↓ilt_0, ↓ieq_1, ↓ieq_0, bn_s1, bd_s1, ei_l1, ei_r1, J_add, J_sub, J_mul, J_neg, J_lt, J_le, J_eq, dv_J, rm_J, if_pos, if_neg, ↓reduceIte, bitJ, shlJ, orJ, j_0, j_1, j_2, j_3, j_4, j_5, j_6, j_7, j_8, j_9, j_10, j_11, j_12, j_13, j_14, j_15, j_16, j_17, j_18, j_19, j_20, j_21, j_22, j_23, j_24, j_25, j_26, j_27, j_28, j_29, j_30, j_31, j_32, j_33, j_34, j_35, j_36, j_37, j_38, j_39, j_40, j_41, j_42, j_43, j_44, j_45, j_46, j_47, j_48, j_49, j_50, j_51, j_52, j_57, j_59, j_63, j_74, j_75, j_93, j_97, j_99, j_100, j_122, j_200, j_255, j_300, j_465, j_496, j_900, j_999, j_1000, j_65536, j_65537, j_99999, j_252645135, j_858993459, j_1431655765, k_0, k_1, k_27, k_32, k_74, k_75, k_100, k_1000, k_65537, ek, ↓bd_e (e1), e1, ↓bd_e (e2), e2, y2]
theorem KO_le {L : Lk} {t : Nat} {b : Bool} {rc : Rc} {M N : Nat} (h : N ≤ M) (H : KO L t b rc M) : KO L t b rc N := fun m o c h' hm => H m o c h' (by omega)
theorem C_kings {L : Lk} {t : Nat} (HL : LW L) (H1 : 1 ≤ L 1 0) : ∀ n, KO L t true (F_gm_kingMoves (n + 1)) (n + 3) := by
  intro n
  induction n with
  | zero => exact C_king HL (C_village (M := 0) HL H1 (fun m _ _ _ hm => by omega)).2
  | succ n ih => exact KO_le (by omega) (C_king HL (C_village HL H1 ih).1)
