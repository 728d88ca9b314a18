/-! plan, planDays, planHouse, feasts, feastHouse: the class -/
theorem pbs_s (a : Ab) (v : Int) (n : Nat) (e : Int) : pbs (sTr a v) n e = pbs a n e := by
  unfold pbs fzb
  rfl
theorem C_plfind {a : Ab} {t : Nat} {h : Hp} {n : Nat} {e : Int} (HA : AW a) (H : CI a t h) (c1 : ¬ qL a 1 0 = 0) (n1 : 1 ≤ n) (n4 : n ≤ 4) (he : e = 0 ∨ e = 1) : ∃ h', F_pl_find 57 t 44 (J n) (J e) h = some h' ∧ Fm 57 70 h h' ∧ XV t h' ∧ BH (qL a 4 0).toNat (hn (qL a)) (pbs a n e) h' := by
  have V := H.1
  have HL := HA.1
  have b1 := LW_h HL
  have b4 := LW_d HL
  have hne := hn_e HL
  have ox := XV_o V
  have f1 : Fm 57 70 h (wF h 57 3 n) := fm_wF (by omega) (by omega)
  have V1 := XV_fm f1 (by omega) V
  obtain ⟨h2, hh2⟩ : ∃ h2, h2 = wF (wF h 57 3 n) 57 0 (-2) := ⟨_, rfl⟩
  have f2 : Fm 57 70 (wF h 57 3 n) h2 := by rw [hh2]; exact fm_wF (by omega) (by omega)
  have V2 := XV_fm f2 (by omega) V1
  have v3 : fi h2 57 3 = n := by rw [hh2, fi_ne (by omega)]; exact fi_same (by omega) (by omega)
  have v0 : fi h2 57 0 = -2 := by rw [hh2]; exact fi_same (by omega) (by omega)
  obtain ⟨y3, h3, e3, f3, x3⟩ := lp_for (b := B_pl_find_14 57 t 44 (J e)) (f := FU) (s := J 0) (h := h2) (fun i s h' => s = J i ∧ Fm 65 66 h2 h' ∧ ∀ j : Int, 0 ≤ j → j < i → ia h' 65 j = 0) (fun _ h' => Fm 65 66 h2 h' ∧ ∀ j : Int, 0 ≤ j → j < 20 → ia h' 65 j = 0) 20 (by unfold FU; omega) ⟨rfl, fm_rf _ _ _, fun j j0 j1 => by omega⟩ (fun i s h3 hi hI => by
      obtain ⟨rfl, f3, x3⟩ := hI
      have V3 := XV_fm f3 (by omega) V2
      have P3 := XV_p V3
      have nn : (iA h3 65).length = 20 := PS_n4 P3
      have n20 : aN h3 65 = some (J (20 : Nat)) := aN_J (PS_k4 P3) nn
      replace n20 : aN h3 65 = some (J 20) := n20
      refine ⟨J (i + 1 : Nat), wA h3 65 i 0, ?_, rfl, fm_tr f3 (fm_wA (by omega) (by omega)), fun j j0 j1 => ?_⟩
      · unfold B_pl_find_14
        try simp only [j_0, j_1, j_2, j_3, j_4, j_5, j_6, j_7, j_8, j_9, j_10, j_11, j_12, j_13, j_14, j_15, j_16, j_17, j_18, j_19, j_20, j_21, j_22, j_23, j_24, j_25, j_26, j_27, j_28, j_29, j_30, j_31, j_32, j_33, j_34, j_35, j_36, j_37, j_38, j_39, j_40, j_41, j_42, j_43, j_44, j_45, j_46, j_47, j_48, j_49, j_50, j_51, j_52, j_57, j_59, j_63, j_74, j_75, j_93, j_97, j_99, j_100, j_122, j_200, j_255, j_300, j_465, j_496, j_900, j_999, j_1000, j_65536, j_65537, j_99999, j_252645135, j_858993459, j_1431655765, k_0, k_1, k_27, k_32, k_74, k_75, k_100, k_1000, k_65537]
        simp (disch := first | with_reducible assumption | omega | trivial) only [↓bn_s1, ↓bd_s1, ↓ei_l1, ↓ei_r1, ↓bn_if, ↓ilt_1, ↓ilt_0, ↓ieq_1, ↓ieq_0, bn_s1, bd_s1, ei_l1, ei_r1, J_add, J_sub, J_mul, J_neg, J_lt, J_le, J_eq, dv_J, rm_J, if_pos, if_neg, ↓reduceIte, bitJ, shlJ, orJ, j_0, j_1, j_2, j_3, j_4, j_5, j_6, j_7, j_8, j_9, j_10, j_11, j_12, j_13, j_14, j_15, j_16, j_17, j_18, j_19, j_20, j_21, j_22, j_23, j_24, j_25, j_26, j_27, j_28, j_29, j_30, j_31, j_32, j_33, j_34, j_35, j_36, j_37, j_38, j_39, j_40, j_41, j_42, j_43, j_44, j_45, j_46, j_47, j_48, j_49, j_50, j_51, j_52, j_57, j_59, j_63, j_74, j_75, j_93, j_97, j_99, j_100, j_122, j_200, j_255, j_300, j_465, j_496, j_900, j_999, j_1000, j_65536, j_65537, j_99999, j_252645135, j_858993459, j_1431655765, k_0, k_1, k_27, k_32, k_74, k_75, k_100, k_1000, k_65537, p_i V3, ↓p_i_b V3, p_p V3, ↓p_p_b V3, p_r1 V3, ↓p_r1_b V3, p_r2 V3, ↓p_r2_b V3, p_r4 V3, ↓p_r4_b V3, p_65a V3, ↓p_65a_b V3, p_65s V3, ↓p_65s_b V3, p_r5 V3, ↓p_r5_b V3, p_66a V3, ↓p_66a_b V3, p_66s V3, ↓p_66s_b V3, p_r6 V3, ↓p_r6_b V3, p_67a V3, ↓p_67a_b V3, p_67s V3, ↓p_67s_b V3, p_r7 V3, ↓p_r7_b V3, p_68a V3, ↓p_68a_b V3, p_68s V3, ↓p_68s_b V3, p_r8 V3, ↓p_r8_b V3, p_69a V3, ↓p_69a_b V3, p_69s V3, ↓p_69s_b V3, ↓bn_e (n20), n20]
        rfl
      · rw [ia_if (by omega) j0 (by omega) (by omega) (by omega)]
        by_cases ee : j = i
        · rw [if_pos ee]
        · rw [if_neg ee]; exact x3 j j0 (by omega)) (fun s h3 hI => by
      obtain ⟨rfl, f3, x3⟩ := hI
      have V3 := XV_fm f3 (by omega) V2
      have P3 := XV_p V3
      have n20 : aN h3 65 = some (J (20 : Nat)) := aN_J (PS_k4 P3) (PS_n4 P3)
      replace n20 : aN h3 65 = some (J 20) := n20
      refine ⟨(), h3, ?_, f3, x3⟩
      unfold B_pl_find_14
      try simp only [j_0, j_1, j_2, j_3, j_4, j_5, j_6, j_7, j_8, j_9, j_10, j_11, j_12, j_13, j_14, j_15, j_16, j_17, j_18, j_19, j_20, j_21, j_22, j_23, j_24, j_25, j_26, j_27, j_28, j_29, j_30, j_31, j_32, j_33, j_34, j_35, j_36, j_37, j_38, j_39, j_40, j_41, j_42, j_43, j_44, j_45, j_46, j_47, j_48, j_49, j_50, j_51, j_52, j_57, j_59, j_63, j_74, j_75, j_93, j_97, j_99, j_100, j_122, j_200, j_255, j_300, j_465, j_496, j_900, j_999, j_1000, j_65536, j_65537, j_99999, j_252645135, j_858993459, j_1431655765, k_0, k_1, k_27, k_32, k_74, k_75, k_100, k_1000, k_65537]
      simp (disch := first | with_reducible assumption | omega | trivial) only [↓bn_s1, ↓bd_s1, ↓ei_l1, ↓ei_r1, ↓bn_if, ↓ilt_1, ↓ilt_0, ↓ieq_1, ↓ieq_0, bn_s1, bd_s1, ei_l1, ei_r1, J_add, J_sub, J_mul, J_neg, J_lt, J_le, J_eq, dv_J, rm_J, if_pos, if_neg, ↓reduceIte, bitJ, shlJ, orJ, j_0, j_1, j_2, j_3, j_4, j_5, j_6, j_7, j_8, j_9, j_10, j_11, j_12, j_13, j_14, j_15, j_16, j_17, j_18, j_19, j_20, j_21, j_22, j_23, j_24, j_25, j_26, j_27, j_28, j_29, j_30, j_31, j_32, j_33, j_34, j_35, j_36, j_37, j_38, j_39, j_40, j_41, j_42, j_43, j_44, j_45, j_46, j_47, j_48, j_49, j_50, j_51, j_52, j_57, j_59, j_63, j_74, j_75, j_93, j_97, j_99, j_100, j_122, j_200, j_255, j_300, j_465, j_496, j_900, j_999, j_1000, j_65536, j_65537, j_99999, j_252645135, j_858993459, j_1431655765, k_0, k_1, k_27, k_32, k_74, k_75, k_100, k_1000, k_65537, p_i V3, ↓p_i_b V3, p_p V3, ↓p_p_b V3, p_r1 V3, ↓p_r1_b V3, p_r2 V3, ↓p_r2_b V3, p_r4 V3, ↓p_r4_b V3, p_65a V3, ↓p_65a_b V3, p_65s V3, ↓p_65s_b V3, p_r5 V3, ↓p_r5_b V3, p_66a V3, ↓p_66a_b V3, p_66s V3, ↓p_66s_b V3, p_r6 V3, ↓p_r6_b V3, p_67a V3, ↓p_67a_b V3, p_67s V3, ↓p_67s_b V3, p_r7 V3, ↓p_r7_b V3, p_68a V3, ↓p_68a_b V3, p_68s V3, ↓p_68s_b V3, p_r8 V3, ↓p_r8_b V3, p_69a V3, ↓p_69a_b V3, p_69s V3, ↓p_69s_b V3, ↓bn_e (n20), n20])
  have f03 : Fm 57 70 h h3 := fm_tr f1 (fm_tr f2 (fm_wd f3 (by omega) (by omega)))
  have V3 := XV_fm f03 (by omega) V
  obtain ⟨h4, e4, f4, S4⟩ := C_copyFrom HL (XV_s62 V3) (XV_s44 V3) (SR_fm f03 (by omega) H.2.2.1) (by omega) (by omega) (by omega)
  have f04 : Fm 57 70 h h4 := fm_tr f03 (fm_wd f4 (by omega) (by omega))
  have V4 := XV_fm f04 (by omega) V
  have R4 := TR_fm f04 (by omega) H.2.1
  obtain ⟨y5, h5, e5, f5, X5⟩ := C_ages (e := e) HA V4 R4 S4 he (fun i i0 i1 => by rw [fm_ia f4 (by omega)]; exact x3 i i0 i1)
  have f05 : Fm 57 70 h h5 := fm_tr f04 (fm_wd f5 (by omega) (by omega))
  have V5 := XV_fm f05 (by omega) V
  have R5 := TR_fm f05 (by omega) H.2.1
  have u3 : fi h5 57 3 = n := by rw [fm_fi f5 (by omega), fm_fi f4 (by omega), fm_fi f3 (by omega)]; exact v3
  have u0 : fi h5 57 0 = -2 := by rw [fm_fi f5 (by omega), fm_fi f4 (by omega), fm_fi f3 (by omega)]; exact v0
  have hD : (((qL a 4 0).toNat : Nat) : Int) = qL a 4 0 := by omega
  obtain ⟨h6, e6, f6, P6, T6⟩ := C_searches (c := (qS a 28).toNat) (t := t) (n := n) HL hD n4 (by omega) 6 (qL a 4 0).toNat (fun i => ia h5 65 i) 0 (fun _ => 0) none h5 (by omega) (Nat.le_refl _) X5.1 (fun i i0 i1 => by have := X5.2.1 i i0 i1; omega) (by omega) (by omega) ⟨V5, R5, fun i _ _ => rfl, u3, ⟨fun _ => u0, fun x p hx => by cases hx⟩⟩ (fun j hj => by omega)
  rw [Nat.sub_self] at e6
  replace e6 : F_pl_search 6 57 t (J 0) (J 0) h5 = some h6 := e6
  refine ⟨h6, ?_, fm_tr f05 f6, P6.1, ?_⟩
  · unfold F_pl_find
    rw [ck_e (PS_k (XV_p V)), jm2]
    try simp only [j_0, j_1, j_2, j_3, j_4, j_5, j_6, j_7, j_8, j_9, j_10, j_11, j_12, j_13, j_14, j_15, j_16, j_17, j_18, j_19, j_20, j_21, j_22, j_23, j_24, j_25, j_26, j_27, j_28, j_29, j_30, j_31, j_32, j_33, j_34, j_35, j_36, j_37, j_38, j_39, j_40, j_41, j_42, j_43, j_44, j_45, j_46, j_47, j_48, j_49, j_50, j_51, j_52, j_57, j_59, j_63, j_74, j_75, j_93, j_97, j_99, j_100, j_122, j_200, j_255, j_300, j_465, j_496, j_900, j_999, j_1000, j_65536, j_65537, j_99999, j_252645135, j_858993459, j_1431655765, k_0, k_1, k_27, k_32, k_74, k_75, k_100, k_1000, k_65537]
    simp (disch := first | with_reducible assumption | omega | trivial) only [↓bn_s1, ↓bd_s1, ↓ei_l1, ↓ei_r1, ↓bn_if, ↓ilt_1, ↓ilt_0, ↓ieq_1, ↓ieq_0, bn_s1, bd_s1, ei_l1, ei_r1, J_add, J_sub, J_mul, J_neg, J_lt, J_le, J_eq, dv_J, rm_J, if_pos, if_neg, ↓reduceIte, bitJ, shlJ, orJ, j_0, j_1, j_2, j_3, j_4, j_5, j_6, j_7, j_8, j_9, j_10, j_11, j_12, j_13, j_14, j_15, j_16, j_17, j_18, j_19, j_20, j_21, j_22, j_23, j_24, j_25, j_26, j_27, j_28, j_29, j_30, j_31, j_32, j_33, j_34, j_35, j_36, j_37, j_38, j_39, j_40, j_41, j_42, j_43, j_44, j_45, j_46, j_47, j_48, j_49, j_50, j_51, j_52, j_57, j_59, j_63, j_74, j_75, j_93, j_97, j_99, j_100, j_122, j_200, j_255, j_300, j_465, j_496, j_900, j_999, j_1000, j_65536, j_65537, j_99999, j_252645135, j_858993459, j_1431655765, k_0, k_1, k_27, k_32, k_74, k_75, k_100, k_1000, k_65537, p_i V, ↓p_i_b V, p_p V, ↓p_p_b V, p_r1 V, ↓p_r1_b V, p_r2 V, ↓p_r2_b V, p_r4 V, ↓p_r4_b V, p_65a V, ↓p_65a_b V, p_65s V, ↓p_65s_b V, p_r5 V, ↓p_r5_b V, p_66a V, ↓p_66a_b V, p_66s V, ↓p_66s_b V, p_r6 V, ↓p_r6_b V, p_67a V, ↓p_67a_b V, p_67s V, ↓p_67s_b V, p_r7 V, ↓p_r7_b V, p_68a V, ↓p_68a_b V, p_68s V, ↓p_68s_b V, p_r8 V, ↓p_r8_b V, p_69a V, ↓p_69a_b V, p_69s V, ↓p_69s_b V, p_i V1, ↓p_i_b V1, p_p V1, ↓p_p_b V1, p_r1 V1, ↓p_r1_b V1, p_r2 V1, ↓p_r2_b V1, p_r4 V1, ↓p_r4_b V1, p_65a V1, ↓p_65a_b V1, p_65s V1, ↓p_65s_b V1, p_r5 V1, ↓p_r5_b V1, p_66a V1, ↓p_66a_b V1, p_66s V1, ↓p_66s_b V1, p_r6 V1, ↓p_r6_b V1, p_67a V1, ↓p_67a_b V1, p_67s V1, ↓p_67s_b V1, p_r7 V1, ↓p_r7_b V1, p_68a V1, ↓p_68a_b V1, p_68s V1, ↓p_68s_b V1, p_r8 V1, ↓p_r8_b V1, p_69a V1, ↓p_69a_b V1, p_69s V1, ↓p_69s_b V1, ← hh2, ↓bd_e (e3), e3, p_i V3, ↓p_i_b V3, p_p V3, ↓p_p_b V3, p_r1 V3, ↓p_r1_b V3, p_r2 V3, ↓p_r2_b V3, p_r4 V3, ↓p_r4_b V3, p_65a V3, ↓p_65a_b V3, p_65s V3, ↓p_65s_b V3, p_r5 V3, ↓p_r5_b V3, p_66a V3, ↓p_66a_b V3, p_66s V3, ↓p_66s_b V3, p_r6 V3, ↓p_r6_b V3, p_67a V3, ↓p_67a_b V3, p_67s V3, ↓p_67s_b V3, p_r7 V3, ↓p_r7_b V3, p_68a V3, ↓p_68a_b V3, p_68s V3, ↓p_68s_b V3, p_r8 V3, ↓p_r8_b V3, p_69a V3, ↓p_69a_b V3, p_69s V3, ↓p_69s_b V3, ↓bn_e (e4), e4, ↓bd_e (e5), e5, ↓bn_e (e6), e6]
  · have := P6.2.2.2.2
    rw [pbs_e HA c1 n e X5] at this
    exact this
def w_pln (a : Ab) (n : Nat) (e : Int) : Int := match pbs a n e with
  | none => -2
  | some (x, _) => x
def w_pdy (a : Ab) (d n : Nat) (e : Int) : Int := match pbs a n e with
  | none => -2
  | some (_, q) => (dyo (hn (qL a)) (q d) : Nat)
def w_phs (a : Ab) (d n : Nat) (e : Int) : Int := match pbs a n e with
  | none => -2
  | some (_, q) => if q d = 0 then -2 else (hmo (hn (qL a)) (q d) : Nat)
theorem c_planx {a : Ab} {t : Nat} {h : Hp} {n e : Int} (HA : AW a) (H : CI a t h) (c : ¬ qL a 1 0 = 0) (d : 1 ≤ n ∧ n ≤ 4) (he : e = 0 ∨ e = 1) : ∃ h', F_pl_find 57 t 44 (J n) (J e) h = some h' ∧ Sc h h' ∧ fi h' 0 12 = fi h 0 12 ∧ XV t h' ∧ BH (qL a 4 0).toNat (hn (qL a)) (pbs a n.toNat e) h' := by
  obtain ⟨N, rfl⟩ := Int.eq_ofNat_of_zero_le (show 0 ≤ n by omega)
  obtain ⟨h1, e1, f1, V1, B1⟩ := C_plfind (n := N) (e := e) HA H c (by omega) (by omega) he
  rw [Int.toNat_natCast]
  exact ⟨h1, e1, sc_fm f1 (by omega), fm_fi f1 (by omega) 12, V1, B1⟩
theorem bh_0 {a : Ab} {n : Nat} {e : Int} {h : Hp} (B : BH (qL a 4 0).toNat (hn (qL a)) (pbs a n e) h) : fi h 57 0 = w_pln a n e ∧ (pbs a n e = none → w_pln a n e = -2) ∧ (∀ x p, pbs a n e = some (x, p) → 0 ≤ w_pln a n e ∧ w_pln a n e ≤ 1000) := by
  unfold w_pln
  cases hb : pbs a n e with
  | none => rw [hb] at B; exact ⟨B.1 rfl, fun _ => rfl, fun x p hx => by cases hx⟩
  | some v =>
    rw [hb] at B
    obtain ⟨b1, b2, b3, _⟩ := B.2 v.1 v.2 rfl
    exact ⟨b1, fun hx => (by cases hx), fun x p hx => by cases hx; exact ⟨b2, b3⟩⟩
theorem c_pln {a : Ab} {t : Nat} {h : Hp} {n : Int} (HA : AW a) (H : CI a t h) (hn' : rng n) : Cq (F_cs_plan 0 (J n) h) h (if ¬ qL a 1 0 = 0 ∧ (1 ≤ n ∧ n ≤ 4) then w_pln a n.toNat 0 else -1) (t_2 (¬ qL a 1 0 = 0) (1 ≤ n ∧ n ≤ 4)) := by
  unfold F_cs_plan
  refine cq_2 (V := fun b => w_pln b n.toNat 0) (by unfold w_pln; rw [pbs_s]) jm1 HA H (pr_L HA H) (pr_o j_1 j_4 hn' (by omega)) (fun c d b h1 eb A1 H1 => ?_)
  rw [← eb] at c
  obtain ⟨h2, e2, s2, g2, V2, B2⟩ := c_planx (e := 0) A1 H1 c d (by omega)
  have V1 := H1.1
  have v := (bh_0 B2).1
  refine ⟨h2, ?_, s2, g2⟩
  try simp only [j_0, j_1, j_2, j_3, j_4, j_5, j_6, j_7, j_8, j_9, j_10, j_11, j_12, j_13, j_14, j_15, j_16, j_17, j_18, j_19, j_20, j_21, j_22, j_23, j_24, j_25, j_26, j_27, j_28, j_29, j_30, j_31, j_32, j_33, j_34, j_35, j_36, j_37, j_38, j_39, j_40, j_41, j_42, j_43, j_44, j_45, j_46, j_47, j_48, j_49, j_50, j_51, j_52, j_57, j_59, j_63, j_74, j_75, j_93, j_97, j_99, j_100, j_122, j_200, j_255, j_300, j_465, j_496, j_900, j_999, j_1000, j_65536, j_65537, j_99999, j_252645135, j_858993459, j_1431655765, k_0, k_1, k_27, k_32, k_74, k_75, k_100, k_1000, k_65537]
  simp (disch := first | with_reducible assumption | omega | trivial) only [↓bn_s1, ↓bd_s1, ↓ei_l1, ↓ei_r1, ↓bn_if, ↓ilt_1, ↓ilt_0, ↓ieq_1, ↓ieq_0, bn_s1, bd_s1, ei_l1, ei_r1, J_add, J_sub, J_mul, J_neg, J_lt, J_le, J_eq, dv_J, rm_J, if_pos, if_neg, ↓reduceIte, bitJ, shlJ, orJ, j_0, j_1, j_2, j_3, j_4, j_5, j_6, j_7, j_8, j_9, j_10, j_11, j_12, j_13, j_14, j_15, j_16, j_17, j_18, j_19, j_20, j_21, j_22, j_23, j_24, j_25, j_26, j_27, j_28, j_29, j_30, j_31, j_32, j_33, j_34, j_35, j_36, j_37, j_38, j_39, j_40, j_41, j_42, j_43, j_44, j_45, j_46, j_47, j_48, j_49, j_50, j_51, j_52, j_57, j_59, j_63, j_74, j_75, j_93, j_97, j_99, j_100, j_122, j_200, j_255, j_300, j_465, j_496, j_900, j_999, j_1000, j_65536, j_65537, j_99999, j_252645135, j_858993459, j_1431655765, k_0, k_1, k_27, k_32, k_74, k_75, k_100, k_1000, k_65537, vr_0 V1, ↓vr_0_b V1, vr_2 V1, ↓vr_2_b V1, vr_4 V1, ↓vr_4_b V1, vr_5 V1, ↓vr_5_b V1, vr_6 V1, ↓vr_6_b V1, vr_7 V1, ↓vr_7_b V1, vr_8 V1, ↓vr_8_b V1, vr_9 V1, ↓vr_9_b V1, vr_10 V1, ↓vr_10_b V1, vr_11 V1, ↓vr_11_b V1, vr_3 V1, ↓vr_3_b V1, v0i V1, ↓v0i_b V1, v0p V1, ↓v0p_b V1, ↓bn_e (e2), e2, vr_0 V2, ↓vr_0_b V2, vr_2 V2, ↓vr_2_b V2, vr_4 V2, ↓vr_4_b V2, vr_5 V2, ↓vr_5_b V2, vr_6 V2, ↓vr_6_b V2, vr_7 V2, ↓vr_7_b V2, vr_8 V2, ↓vr_8_b V2, vr_9 V2, ↓vr_9_b V2, vr_10 V2, ↓vr_10_b V2, vr_11 V2, ↓vr_11_b V2, vr_3 V2, ↓vr_3_b V2, v0i V2, ↓v0i_b V2, v0p V2, ↓v0p_b V2, p_i V2, ↓p_i_b V2, p_p V2, ↓p_p_b V2, p_r1 V2, ↓p_r1_b V2, p_r2 V2, ↓p_r2_b V2, p_r4 V2, ↓p_r4_b V2, p_65a V2, ↓p_65a_b V2, p_65s V2, ↓p_65s_b V2, p_r5 V2, ↓p_r5_b V2, p_66a V2, ↓p_66a_b V2, p_66s V2, ↓p_66s_b V2, p_r6 V2, ↓p_r6_b V2, p_67a V2, ↓p_67a_b V2, p_67s V2, ↓p_67s_b V2, p_r7 V2, ↓p_r7_b V2, p_68a V2, ↓p_68a_b V2, p_68s V2, ↓p_68s_b V2, p_r8 V2, ↓p_r8_b V2, p_69a V2, ↓p_69a_b V2, p_69s V2, ↓p_69s_b V2, v]
theorem c_fst {a : Ab} {t : Nat} {h : Hp} {n : Int} (HA : AW a) (H : CI a t h) (hn' : rng n) : Cq (F_cs_feasts 0 (J n) h) h (if ¬ qL a 1 0 = 0 ∧ (1 ≤ n ∧ n ≤ 4) then w_pln a n.toNat 1 else -1) (t_2 (¬ qL a 1 0 = 0) (1 ≤ n ∧ n ≤ 4)) := by
  unfold F_cs_feasts
  refine cq_2 (V := fun b => w_pln b n.toNat 1) (by unfold w_pln; rw [pbs_s]) jm1 HA H (pr_L HA H) (pr_o j_1 j_4 hn' (by omega)) (fun c d b h1 eb A1 H1 => ?_)
  rw [← eb] at c
  obtain ⟨h2, e2, s2, g2, V2, B2⟩ := c_planx (e := 1) A1 H1 c d (by omega)
  have V1 := H1.1
  have v := (bh_0 B2).1
  refine ⟨h2, ?_, s2, g2⟩
  try simp only [j_0, j_1, j_2, j_3, j_4, j_5, j_6, j_7, j_8, j_9, j_10, j_11, j_12, j_13, j_14, j_15, j_16, j_17, j_18, j_19, j_20, j_21, j_22, j_23, j_24, j_25, j_26, j_27, j_28, j_29, j_30, j_31, j_32, j_33, j_34, j_35, j_36, j_37, j_38, j_39, j_40, j_41, j_42, j_43, j_44, j_45, j_46, j_47, j_48, j_49, j_50, j_51, j_52, j_57, j_59, j_63, j_74, j_75, j_93, j_97, j_99, j_100, j_122, j_200, j_255, j_300, j_465, j_496, j_900, j_999, j_1000, j_65536, j_65537, j_99999, j_252645135, j_858993459, j_1431655765, k_0, k_1, k_27, k_32, k_74, k_75, k_100, k_1000, k_65537]
  simp (disch := first | with_reducible assumption | omega | trivial) only [↓bn_s1, ↓bd_s1, ↓ei_l1, ↓ei_r1, ↓bn_if, ↓ilt_1, ↓ilt_0, ↓ieq_1, ↓ieq_0, bn_s1, bd_s1, ei_l1, ei_r1, J_add, J_sub, J_mul, J_neg, J_lt, J_le, J_eq, dv_J, rm_J, if_pos, if_neg, ↓reduceIte, bitJ, shlJ, orJ, j_0, j_1, j_2, j_3, j_4, j_5, j_6, j_7, j_8, j_9, j_10, j_11, j_12, j_13, j_14, j_15, j_16, j_17, j_18, j_19, j_20, j_21, j_22, j_23, j_24, j_25, j_26, j_27, j_28, j_29, j_30, j_31, j_32, j_33, j_34, j_35, j_36, j_37, j_38, j_39, j_40, j_41, j_42, j_43, j_44, j_45, j_46, j_47, j_48, j_49, j_50, j_51, j_52, j_57, j_59, j_63, j_74, j_75, j_93, j_97, j_99, j_100, j_122, j_200, j_255, j_300, j_465, j_496, j_900, j_999, j_1000, j_65536, j_65537, j_99999, j_252645135, j_858993459, j_1431655765, k_0, k_1, k_27, k_32, k_74, k_75, k_100, k_1000, k_65537, vr_0 V1, ↓vr_0_b V1, vr_2 V1, ↓vr_2_b V1, vr_4 V1, ↓vr_4_b V1, vr_5 V1, ↓vr_5_b V1, vr_6 V1, ↓vr_6_b V1, vr_7 V1, ↓vr_7_b V1, vr_8 V1, ↓vr_8_b V1, vr_9 V1, ↓vr_9_b V1, vr_10 V1, ↓vr_10_b V1, vr_11 V1, ↓vr_11_b V1, vr_3 V1, ↓vr_3_b V1, v0i V1, ↓v0i_b V1, v0p V1, ↓v0p_b V1, ↓bn_e (e2), e2, vr_0 V2, ↓vr_0_b V2, vr_2 V2, ↓vr_2_b V2, vr_4 V2, ↓vr_4_b V2, vr_5 V2, ↓vr_5_b V2, vr_6 V2, ↓vr_6_b V2, vr_7 V2, ↓vr_7_b V2, vr_8 V2, ↓vr_8_b V2, vr_9 V2, ↓vr_9_b V2, vr_10 V2, ↓vr_10_b V2, vr_11 V2, ↓vr_11_b V2, vr_3 V2, ↓vr_3_b V2, v0i V2, ↓v0i_b V2, v0p V2, ↓v0p_b V2, p_i V2, ↓p_i_b V2, p_p V2, ↓p_p_b V2, p_r1 V2, ↓p_r1_b V2, p_r2 V2, ↓p_r2_b V2, p_r4 V2, ↓p_r4_b V2, p_65a V2, ↓p_65a_b V2, p_65s V2, ↓p_65s_b V2, p_r5 V2, ↓p_r5_b V2, p_66a V2, ↓p_66a_b V2, p_66s V2, ↓p_66s_b V2, p_r6 V2, ↓p_r6_b V2, p_67a V2, ↓p_67a_b V2, p_67s V2, ↓p_67s_b V2, p_r7 V2, ↓p_r7_b V2, p_68a V2, ↓p_68a_b V2, p_68s V2, ↓p_68s_b V2, p_r8 V2, ↓p_r8_b V2, p_69a V2, ↓p_69a_b V2, p_69s V2, ↓p_69s_b V2, v]
theorem C_daysOf {a : Ab} {t : Nat} {h : Hp} {d n : Nat} {e : Int} (HA : AW a) (V : XV t h) (B : BH (qL a 4 0).toNat (hn (qL a)) (pbs a n e) h) (hd : d < qL a 4 0) : F_pl_daysOf 57 (J d) h = some (J (w_pdy a d n e)) := by
  have b4 := LW_d HA.1
  have v := bh_0 B
  unfold F_pl_daysOf w_pdy
  rw [ck_e (PS_k (XV_p V)), jm2]
  cases hb : pbs a n e with
  | none =>
    have w := v.2.1 hb
    have v1 := v.1
    rw [w] at v1
    try simp only [j_0, j_1, j_2, j_3, j_4, j_5, j_6, j_7, j_8, j_9, j_10, j_11, j_12, j_13, j_14, j_15, j_16, j_17, j_18, j_19, j_20, j_21, j_22, j_23, j_24, j_25, j_26, j_27, j_28, j_29, j_30, j_31, j_32, j_33, j_34, j_35, j_36, j_37, j_38, j_39, j_40, j_41, j_42, j_43, j_44, j_45, j_46, j_47, j_48, j_49, j_50, j_51, j_52, j_57, j_59, j_63, j_74, j_75, j_93, j_97, j_99, j_100, j_122, j_200, j_255, j_300, j_465, j_496, j_900, j_999, j_1000, j_65536, j_65537, j_99999, j_252645135, j_858993459, j_1431655765, k_0, k_1, k_27, k_32, k_74, k_75, k_100, k_1000, k_65537]
    simp (disch := first | with_reducible assumption | omega | trivial) only [↓bn_s1, ↓bd_s1, ↓ei_l1, ↓ei_r1, ↓bn_if, ↓ilt_1, ↓ilt_0, ↓ieq_1, ↓ieq_0, bn_s1, bd_s1, ei_l1, ei_r1, J_add, J_sub, J_mul, J_neg, J_lt, J_le, J_eq, dv_J, rm_J, if_pos, if_neg, ↓reduceIte, bitJ, shlJ, orJ, j_0, j_1, j_2, j_3, j_4, j_5, j_6, j_7, j_8, j_9, j_10, j_11, j_12, j_13, j_14, j_15, j_16, j_17, j_18, j_19, j_20, j_21, j_22, j_23, j_24, j_25, j_26, j_27, j_28, j_29, j_30, j_31, j_32, j_33, j_34, j_35, j_36, j_37, j_38, j_39, j_40, j_41, j_42, j_43, j_44, j_45, j_46, j_47, j_48, j_49, j_50, j_51, j_52, j_57, j_59, j_63, j_74, j_75, j_93, j_97, j_99, j_100, j_122, j_200, j_255, j_300, j_465, j_496, j_900, j_999, j_1000, j_65536, j_65537, j_99999, j_252645135, j_858993459, j_1431655765, k_0, k_1, k_27, k_32, k_74, k_75, k_100, k_1000, k_65537, p_i V, ↓p_i_b V, p_p V, ↓p_p_b V, p_r1 V, ↓p_r1_b V, p_r2 V, ↓p_r2_b V, p_r4 V, ↓p_r4_b V, p_65a V, ↓p_65a_b V, p_65s V, ↓p_65s_b V, p_r5 V, ↓p_r5_b V, p_66a V, ↓p_66a_b V, p_66s V, ↓p_66s_b V, p_r6 V, ↓p_r6_b V, p_67a V, ↓p_67a_b V, p_67s V, ↓p_67s_b V, p_r7 V, ↓p_r7_b V, p_68a V, ↓p_68a_b V, p_68s V, ↓p_68s_b V, p_r8 V, ↓p_r8_b V, p_69a V, ↓p_69a_b V, p_69s V, ↓p_69s_b V, v1]
  | some x =>
    have w := v.2.2 x.1 x.2 hb
    have v1 := v.1
    rw [hb] at B
    have dd := ((B.2 x.1 x.2 rfl).2.2.2 d (by omega)).1
    try simp only [j_0, j_1, j_2, j_3, j_4, j_5, j_6, j_7, j_8, j_9, j_10, j_11, j_12, j_13, j_14, j_15, j_16, j_17, j_18, j_19, j_20, j_21, j_22, j_23, j_24, j_25, j_26, j_27, j_28, j_29, j_30, j_31, j_32, j_33, j_34, j_35, j_36, j_37, j_38, j_39, j_40, j_41, j_42, j_43, j_44, j_45, j_46, j_47, j_48, j_49, j_50, j_51, j_52, j_57, j_59, j_63, j_74, j_75, j_93, j_97, j_99, j_100, j_122, j_200, j_255, j_300, j_465, j_496, j_900, j_999, j_1000, j_65536, j_65537, j_99999, j_252645135, j_858993459, j_1431655765, k_0, k_1, k_27, k_32, k_74, k_75, k_100, k_1000, k_65537]
    simp (disch := first | with_reducible assumption | omega | trivial) only [↓bn_s1, ↓bd_s1, ↓ei_l1, ↓ei_r1, ↓bn_if, ↓ilt_1, ↓ilt_0, ↓ieq_1, ↓ieq_0, bn_s1, bd_s1, ei_l1, ei_r1, J_add, J_sub, J_mul, J_neg, J_lt, J_le, J_eq, dv_J, rm_J, if_pos, if_neg, ↓reduceIte, bitJ, shlJ, orJ, j_0, j_1, j_2, j_3, j_4, j_5, j_6, j_7, j_8, j_9, j_10, j_11, j_12, j_13, j_14, j_15, j_16, j_17, j_18, j_19, j_20, j_21, j_22, j_23, j_24, j_25, j_26, j_27, j_28, j_29, j_30, j_31, j_32, j_33, j_34, j_35, j_36, j_37, j_38, j_39, j_40, j_41, j_42, j_43, j_44, j_45, j_46, j_47, j_48, j_49, j_50, j_51, j_52, j_57, j_59, j_63, j_74, j_75, j_93, j_97, j_99, j_100, j_122, j_200, j_255, j_300, j_465, j_496, j_900, j_999, j_1000, j_65536, j_65537, j_99999, j_252645135, j_858993459, j_1431655765, k_0, k_1, k_27, k_32, k_74, k_75, k_100, k_1000, k_65537, p_i V, ↓p_i_b V, p_p V, ↓p_p_b V, p_r1 V, ↓p_r1_b V, p_r2 V, ↓p_r2_b V, p_r4 V, ↓p_r4_b V, p_65a V, ↓p_65a_b V, p_65s V, ↓p_65s_b V, p_r5 V, ↓p_r5_b V, p_66a V, ↓p_66a_b V, p_66s V, ↓p_66s_b V, p_r6 V, ↓p_r6_b V, p_67a V, ↓p_67a_b V, p_67s V, ↓p_67s_b V, p_r7 V, ↓p_r7_b V, p_68a V, ↓p_68a_b V, p_68s V, ↓p_68s_b V, p_r8 V, ↓p_r8_b V, p_69a V, ↓p_69a_b V, p_69s V, ↓p_69s_b V, v1, dd]
theorem dyo_b {H o n : Nat} (h : o < 1 + n * H) (hH : 1 ≤ H) : dyo H o ≤ n ∧ (dyo H o = 0 ↔ o = 0) := by
  unfold dyo
  by_cases o0 : o = 0
  · rw [if_pos o0]; exact ⟨by omega, ⟨fun _ => o0, fun _ => rfl⟩⟩
  · rw [if_neg o0]
    have : (o - 1) / H < n := Nat.div_lt_of_lt_mul (by rw [Nat.mul_comm]; omega)
    exact ⟨by omega, ⟨fun x => by rw [Nat.add_comm] at x; exact absurd x (Nat.succ_ne_zero _), fun x => absurd x o0⟩⟩
theorem qcd_lt {A : Nat} (hA : 0 < A) : ∀ (D p d : Nat), qcd A D p d < A := by
  intro D
  induction D with
  | zero => intro p d; exact hA
  | succ D ih =>
    intro p d
    show upq (qcd A D (p / A)) D (p % A) d < A
    unfold upq
    by_cases e : d = D
    · rw [if_pos e]; exact Nat.mod_lt _ hA
    · rw [if_neg e]; exact ih _ d
theorem pbs_q {a : Ab} {n : Nat} {e : Int} {x : Int} {q : Pn} (h : pbs a n e = some (x, q)) (d : Nat) : q d < 1 + n * hn (qL a) := by
  unfold pbs at h
  obtain ⟨p, _, hp⟩ := fo_at _ h
  replace hp : (if fzb a n e p = true then some (ucd (qL a) (1 + n * hn (qL a)) (qL a 4 0).toNat p, qcd (1 + n * hn (qL a)) (qL a 4 0).toNat p) else none) = some (x, q) := hp
  by_cases f : fzb a n e p = true
  · rw [if_pos f] at hp
    cases hp
    exact qcd_lt (by omega) _ p d
  · rw [if_neg f] at hp; cases hp
theorem C_houseOf {a : Ab} {t : Nat} {h : Hp} {d n : Nat} {e : Int} (HA : AW a) (V : XV t h) (c : ¬ qL a 1 0 = 0) (B : BH (qL a 4 0).toNat (hn (qL a)) (pbs a n e) h) (hd : d < qL a 4 0) (n4 : n ≤ 4) : F_pl_houseOf 57 (J d) h = some (J (w_phs a d n e)) := by
  have b4 := LW_d HA.1
  have b1 := LW_h HA.1
  have hne := hn_e HA.1
  have v := bh_0 B
  unfold F_pl_houseOf w_phs
  rw [ck_e (PS_k (XV_p V)), jm2]
  cases hb : pbs a n e with
  | none =>
    have w := v.2.1 hb
    have v1 := v.1
    rw [w] at v1
    try simp only [j_0, j_1, j_2, j_3, j_4, j_5, j_6, j_7, j_8, j_9, j_10, j_11, j_12, j_13, j_14, j_15, j_16, j_17, j_18, j_19, j_20, j_21, j_22, j_23, j_24, j_25, j_26, j_27, j_28, j_29, j_30, j_31, j_32, j_33, j_34, j_35, j_36, j_37, j_38, j_39, j_40, j_41, j_42, j_43, j_44, j_45, j_46, j_47, j_48, j_49, j_50, j_51, j_52, j_57, j_59, j_63, j_74, j_75, j_93, j_97, j_99, j_100, j_122, j_200, j_255, j_300, j_465, j_496, j_900, j_999, j_1000, j_65536, j_65537, j_99999, j_252645135, j_858993459, j_1431655765, k_0, k_1, k_27, k_32, k_74, k_75, k_100, k_1000, k_65537]
    simp (disch := first | with_reducible assumption | omega | trivial) only [↓bn_s1, ↓bd_s1, ↓ei_l1, ↓ei_r1, ↓bn_if, ↓ilt_1, ↓ilt_0, ↓ieq_1, ↓ieq_0, bn_s1, bd_s1, ei_l1, ei_r1, J_add, J_sub, J_mul, J_neg, J_lt, J_le, J_eq, dv_J, rm_J, if_pos, if_neg, ↓reduceIte, bitJ, shlJ, orJ, j_0, j_1, j_2, j_3, j_4, j_5, j_6, j_7, j_8, j_9, j_10, j_11, j_12, j_13, j_14, j_15, j_16, j_17, j_18, j_19, j_20, j_21, j_22, j_23, j_24, j_25, j_26, j_27, j_28, j_29, j_30, j_31, j_32, j_33, j_34, j_35, j_36, j_37, j_38, j_39, j_40, j_41, j_42, j_43, j_44, j_45, j_46, j_47, j_48, j_49, j_50, j_51, j_52, j_57, j_59, j_63, j_74, j_75, j_93, j_97, j_99, j_100, j_122, j_200, j_255, j_300, j_465, j_496, j_900, j_999, j_1000, j_65536, j_65537, j_99999, j_252645135, j_858993459, j_1431655765, k_0, k_1, k_27, k_32, k_74, k_75, k_100, k_1000, k_65537, p_i V, ↓p_i_b V, p_p V, ↓p_p_b V, p_r1 V, ↓p_r1_b V, p_r2 V, ↓p_r2_b V, p_r4 V, ↓p_r4_b V, p_65a V, ↓p_65a_b V, p_65s V, ↓p_65s_b V, p_r5 V, ↓p_r5_b V, p_66a V, ↓p_66a_b V, p_66s V, ↓p_66s_b V, p_r6 V, ↓p_r6_b V, p_67a V, ↓p_67a_b V, p_67s V, ↓p_67s_b V, p_r7 V, ↓p_r7_b V, p_68a V, ↓p_68a_b V, p_68s V, ↓p_68s_b V, p_r8 V, ↓p_r8_b V, p_69a V, ↓p_69a_b V, p_69s V, ↓p_69s_b V, v1]
  | some x =>
    have w := v.2.2 x.1 x.2 hb
    have v1 := v.1
    have ql := dyo_b (pbs_q (q := x.2) (x := x.1) hb d) (by omega)
    rw [hb] at B
    have dd := (B.2 x.1 x.2 rfl).2.2.2 d (by omega)
    have d1 := dd.1
    show _ = some (J (if x.2 d = 0 then -2 else (hmo (hn (qL a)) (x.2 d) : Nat)))
    by_cases z : x.2 d = 0
    · rw [if_pos z]
      have z2 : dyo (hn (qL a)) (x.2 d) = 0 := ql.2.mpr z
      rw [z2] at d1
      try simp only [j_0, j_1, j_2, j_3, j_4, j_5, j_6, j_7, j_8, j_9, j_10, j_11, j_12, j_13, j_14, j_15, j_16, j_17, j_18, j_19, j_20, j_21, j_22, j_23, j_24, j_25, j_26, j_27, j_28, j_29, j_30, j_31, j_32, j_33, j_34, j_35, j_36, j_37, j_38, j_39, j_40, j_41, j_42, j_43, j_44, j_45, j_46, j_47, j_48, j_49, j_50, j_51, j_52, j_57, j_59, j_63, j_74, j_75, j_93, j_97, j_99, j_100, j_122, j_200, j_255, j_300, j_465, j_496, j_900, j_999, j_1000, j_65536, j_65537, j_99999, j_252645135, j_858993459, j_1431655765, k_0, k_1, k_27, k_32, k_74, k_75, k_100, k_1000, k_65537]
      simp (disch := first | with_reducible assumption | omega | trivial) only [↓bn_s1, ↓bd_s1, ↓ei_l1, ↓ei_r1, ↓bn_if, ↓ilt_1, ↓ilt_0, ↓ieq_1, ↓ieq_0, bn_s1, bd_s1, ei_l1, ei_r1, J_add, J_sub, J_mul, J_neg, J_lt, J_le, J_eq, dv_J, rm_J, if_pos, if_neg, ↓reduceIte, bitJ, shlJ, orJ, j_0, j_1, j_2, j_3, j_4, j_5, j_6, j_7, j_8, j_9, j_10, j_11, j_12, j_13, j_14, j_15, j_16, j_17, j_18, j_19, j_20, j_21, j_22, j_23, j_24, j_25, j_26, j_27, j_28, j_29, j_30, j_31, j_32, j_33, j_34, j_35, j_36, j_37, j_38, j_39, j_40, j_41, j_42, j_43, j_44, j_45, j_46, j_47, j_48, j_49, j_50, j_51, j_52, j_57, j_59, j_63, j_74, j_75, j_93, j_97, j_99, j_100, j_122, j_200, j_255, j_300, j_465, j_496, j_900, j_999, j_1000, j_65536, j_65537, j_99999, j_252645135, j_858993459, j_1431655765, k_0, k_1, k_27, k_32, k_74, k_75, k_100, k_1000, k_65537, p_i V, ↓p_i_b V, p_p V, ↓p_p_b V, p_r1 V, ↓p_r1_b V, p_r2 V, ↓p_r2_b V, p_r4 V, ↓p_r4_b V, p_65a V, ↓p_65a_b V, p_65s V, ↓p_65s_b V, p_r5 V, ↓p_r5_b V, p_66a V, ↓p_66a_b V, p_66s V, ↓p_66s_b V, p_r6 V, ↓p_r6_b V, p_67a V, ↓p_67a_b V, p_67s V, ↓p_67s_b V, p_r7 V, ↓p_r7_b V, p_68a V, ↓p_68a_b V, p_68s V, ↓p_68s_b V, p_r8 V, ↓p_r8_b V, p_69a V, ↓p_69a_b V, p_69s V, ↓p_69s_b V, v1, d1]
    · rw [if_neg z]
      have z2 : ¬ dyo (hn (qL a)) (x.2 d) = 0 := fun y => z (ql.2.mp y)
      have d2 := dd.2 z
      try simp only [j_0, j_1, j_2, j_3, j_4, j_5, j_6, j_7, j_8, j_9, j_10, j_11, j_12, j_13, j_14, j_15, j_16, j_17, j_18, j_19, j_20, j_21, j_22, j_23, j_24, j_25, j_26, j_27, j_28, j_29, j_30, j_31, j_32, j_33, j_34, j_35, j_36, j_37, j_38, j_39, j_40, j_41, j_42, j_43, j_44, j_45, j_46, j_47, j_48, j_49, j_50, j_51, j_52, j_57, j_59, j_63, j_74, j_75, j_93, j_97, j_99, j_100, j_122, j_200, j_255, j_300, j_465, j_496, j_900, j_999, j_1000, j_65536, j_65537, j_99999, j_252645135, j_858993459, j_1431655765, k_0, k_1, k_27, k_32, k_74, k_75, k_100, k_1000, k_65537]
      simp (disch := first | with_reducible assumption | omega | trivial) only [↓bn_s1, ↓bd_s1, ↓ei_l1, ↓ei_r1, ↓bn_if, ↓ilt_1, ↓ilt_0, ↓ieq_1, ↓ieq_0, bn_s1, bd_s1, ei_l1, ei_r1, J_add, J_sub, J_mul, J_neg, J_lt, J_le, J_eq, dv_J, rm_J, if_pos, if_neg, ↓reduceIte, bitJ, shlJ, orJ, j_0, j_1, j_2, j_3, j_4, j_5, j_6, j_7, j_8, j_9, j_10, j_11, j_12, j_13, j_14, j_15, j_16, j_17, j_18, j_19, j_20, j_21, j_22, j_23, j_24, j_25, j_26, j_27, j_28, j_29, j_30, j_31, j_32, j_33, j_34, j_35, j_36, j_37, j_38, j_39, j_40, j_41, j_42, j_43, j_44, j_45, j_46, j_47, j_48, j_49, j_50, j_51, j_52, j_57, j_59, j_63, j_74, j_75, j_93, j_97, j_99, j_100, j_122, j_200, j_255, j_300, j_465, j_496, j_900, j_999, j_1000, j_65536, j_65537, j_99999, j_252645135, j_858993459, j_1431655765, k_0, k_1, k_27, k_32, k_74, k_75, k_100, k_1000, k_65537, p_i V, ↓p_i_b V, p_p V, ↓p_p_b V, p_r1 V, ↓p_r1_b V, p_r2 V, ↓p_r2_b V, p_r4 V, ↓p_r4_b V, p_65a V, ↓p_65a_b V, p_65s V, ↓p_65s_b V, p_r5 V, ↓p_r5_b V, p_66a V, ↓p_66a_b V, p_66s V, ↓p_66s_b V, p_r6 V, ↓p_r6_b V, p_67a V, ↓p_67a_b V, p_67s V, ↓p_67s_b V, p_r7 V, ↓p_r7_b V, p_68a V, ↓p_68a_b V, p_68s V, ↓p_68s_b V, p_r8 V, ↓p_r8_b V, p_69a V, ↓p_69a_b V, p_69s V, ↓p_69s_b V, v1, d1, d2]
theorem c_pdy {a : Ab} {t : Nat} {h : Hp} {d n : Int} (HA : AW a) (HN : NL a) (H : CI a t h) (hd : rng d) (hn' : rng n) : Cq (F_cs_planDays 0 (J d) (J n) h) h (if inr d (qL a 4 0) ∧ (1 ≤ n ∧ n ≤ 4) then w_pdy a d.toNat n.toNat 0 else -1) (t_2 (inr d (qL a 4 0)) (1 ≤ n ∧ n ≤ 4)) := by
  unfold F_cs_planDays
  refine cq_2 (V := fun b => w_pdy b d.toNat n.toNat 0) (by unfold w_pdy; rw [pbs_s]; rfl) jm1 HA H (pr_D HA H hd) (pr_o j_1 j_4 hn' (by omega)) (fun c en b h1 eb A1 H1 => ?_)
  have cl : ¬ qL a 1 0 = 0 := fun x => by have := (HN x).1 4 (by omega); omega
  rw [← eb] at c cl
  obtain ⟨h2, e2, s2, g2, V2, B2⟩ := c_planx (e := 0) A1 H1 cl en (by omega)
  have V1 := H1.1
  have ed := C_daysOf (d := d.toNat) (n := n.toNat) A1 V2 B2 (by omega)
  rw [show ((d.toNat : Nat) : Int) = d by omega] at ed
  refine ⟨h2, ?_, s2, g2⟩
  try simp only [j_0, j_1, j_2, j_3, j_4, j_5, j_6, j_7, j_8, j_9, j_10, j_11, j_12, j_13, j_14, j_15, j_16, j_17, j_18, j_19, j_20, j_21, j_22, j_23, j_24, j_25, j_26, j_27, j_28, j_29, j_30, j_31, j_32, j_33, j_34, j_35, j_36, j_37, j_38, j_39, j_40, j_41, j_42, j_43, j_44, j_45, j_46, j_47, j_48, j_49, j_50, j_51, j_52, j_57, j_59, j_63, j_74, j_75, j_93, j_97, j_99, j_100, j_122, j_200, j_255, j_300, j_465, j_496, j_900, j_999, j_1000, j_65536, j_65537, j_99999, j_252645135, j_858993459, j_1431655765, k_0, k_1, k_27, k_32, k_74, k_75, k_100, k_1000, k_65537]
  simp (disch := first | with_reducible assumption | omega | trivial) only [↓bn_s1, ↓bd_s1, ↓ei_l1, ↓ei_r1, ↓bn_if, ↓ilt_1, ↓ilt_0, ↓ieq_1, ↓ieq_0, bn_s1, bd_s1, ei_l1, ei_r1, J_add, J_sub, J_mul, J_neg, J_lt, J_le, J_eq, dv_J, rm_J, if_pos, if_neg, ↓reduceIte, bitJ, shlJ, orJ, j_0, j_1, j_2, j_3, j_4, j_5, j_6, j_7, j_8, j_9, j_10, j_11, j_12, j_13, j_14, j_15, j_16, j_17, j_18, j_19, j_20, j_21, j_22, j_23, j_24, j_25, j_26, j_27, j_28, j_29, j_30, j_31, j_32, j_33, j_34, j_35, j_36, j_37, j_38, j_39, j_40, j_41, j_42, j_43, j_44, j_45, j_46, j_47, j_48, j_49, j_50, j_51, j_52, j_57, j_59, j_63, j_74, j_75, j_93, j_97, j_99, j_100, j_122, j_200, j_255, j_300, j_465, j_496, j_900, j_999, j_1000, j_65536, j_65537, j_99999, j_252645135, j_858993459, j_1431655765, k_0, k_1, k_27, k_32, k_74, k_75, k_100, k_1000, k_65537, vr_0 V1, ↓vr_0_b V1, vr_2 V1, ↓vr_2_b V1, vr_4 V1, ↓vr_4_b V1, vr_5 V1, ↓vr_5_b V1, vr_6 V1, ↓vr_6_b V1, vr_7 V1, ↓vr_7_b V1, vr_8 V1, ↓vr_8_b V1, vr_9 V1, ↓vr_9_b V1, vr_10 V1, ↓vr_10_b V1, vr_11 V1, ↓vr_11_b V1, vr_3 V1, ↓vr_3_b V1, v0i V1, ↓v0i_b V1, v0p V1, ↓v0p_b V1, ↓bn_e (e2), e2, vr_0 V2, ↓vr_0_b V2, vr_2 V2, ↓vr_2_b V2, vr_4 V2, ↓vr_4_b V2, vr_5 V2, ↓vr_5_b V2, vr_6 V2, ↓vr_6_b V2, vr_7 V2, ↓vr_7_b V2, vr_8 V2, ↓vr_8_b V2, vr_9 V2, ↓vr_9_b V2, vr_10 V2, ↓vr_10_b V2, vr_11 V2, ↓vr_11_b V2, vr_3 V2, ↓vr_3_b V2, v0i V2, ↓v0i_b V2, v0p V2, ↓v0p_b V2, ↓bn_e (ed), ed]
theorem c_phs {a : Ab} {t : Nat} {h : Hp} {d n : Int} (HA : AW a) (HN : NL a) (H : CI a t h) (hd : rng d) (hn' : rng n) : Cq (F_cs_planHouse 0 (J d) (J n) h) h (if inr d (qL a 4 0) ∧ (1 ≤ n ∧ n ≤ 4) then w_phs a d.toNat n.toNat 0 else -1) (t_2 (inr d (qL a 4 0)) (1 ≤ n ∧ n ≤ 4)) := by
  unfold F_cs_planHouse
  refine cq_2 (V := fun b => w_phs b d.toNat n.toNat 0) (by unfold w_phs; rw [pbs_s]; rfl) jm1 HA H (pr_D HA H hd) (pr_o j_1 j_4 hn' (by omega)) (fun c en b h1 eb A1 H1 => ?_)
  have cl : ¬ qL a 1 0 = 0 := fun x => by have := (HN x).1 4 (by omega); omega
  rw [← eb] at c cl
  obtain ⟨h2, e2, s2, g2, V2, B2⟩ := c_planx (e := 0) A1 H1 cl en (by omega)
  have V1 := H1.1
  have ed := C_houseOf (d := d.toNat) (n := n.toNat) A1 V2 cl B2 (by omega) (by omega)
  rw [show ((d.toNat : Nat) : Int) = d by omega] at ed
  refine ⟨h2, ?_, s2, g2⟩
  try simp only [j_0, j_1, j_2, j_3, j_4, j_5, j_6, j_7, j_8, j_9, j_10, j_11, j_12, j_13, j_14, j_15, j_16, j_17, j_18, j_19, j_20, j_21, j_22, j_23, j_24, j_25, j_26, j_27, j_28, j_29, j_30, j_31, j_32, j_33, j_34, j_35, j_36, j_37, j_38, j_39, j_40, j_41, j_42, j_43, j_44, j_45, j_46, j_47, j_48, j_49, j_50, j_51, j_52, j_57, j_59, j_63, j_74, j_75, j_93, j_97, j_99, j_100, j_122, j_200, j_255, j_300, j_465, j_496, j_900, j_999, j_1000, j_65536, j_65537, j_99999, j_252645135, j_858993459, j_1431655765, k_0, k_1, k_27, k_32, k_74, k_75, k_100, k_1000, k_65537]
  simp (disch := first | with_reducible assumption | omega | trivial) only [↓bn_s1, ↓bd_s1, ↓ei_l1, ↓ei_r1, ↓bn_if, ↓ilt_1, ↓ilt_0, ↓ieq_1, ↓ieq_0, bn_s1, bd_s1, ei_l1, ei_r1, J_add, J_sub, J_mul, J_neg, J_lt, J_le, J_eq, dv_J, rm_J, if_pos, if_neg, ↓reduceIte, bitJ, shlJ, orJ, j_0, j_1, j_2, j_3, j_4, j_5, j_6, j_7, j_8, j_9, j_10, j_11, j_12, j_13, j_14, j_15, j_16, j_17, j_18, j_19, j_20, j_21, j_22, j_23, j_24, j_25, j_26, j_27, j_28, j_29, j_30, j_31, j_32, j_33, j_34, j_35, j_36, j_37, j_38, j_39, j_40, j_41, j_42, j_43, j_44, j_45, j_46, j_47, j_48, j_49, j_50, j_51, j_52, j_57, j_59, j_63, j_74, j_75, j_93, j_97, j_99, j_100, j_122, j_200, j_255, j_300, j_465, j_496, j_900, j_999, j_1000, j_65536, j_65537, j_99999, j_252645135, j_858993459, j_1431655765, k_0, k_1, k_27, k_32, k_74, k_75, k_100, k_1000, k_65537, vr_0 V1, ↓vr_0_b V1, vr_2 V1, ↓vr_2_b V1, vr_4 V1, ↓vr_4_b V1, vr_5 V1, ↓vr_5_b V1, vr_6 V1, ↓vr_6_b V1, vr_7 V1, ↓vr_7_b V1, vr_8 V1, ↓vr_8_b V1, vr_9 V1, ↓vr_9_b V1, vr_10 V1, ↓vr_10_b V1, vr_11 V1, ↓vr_11_b V1, vr_3 V1, ↓vr_3_b V1, v0i V1, ↓v0i_b V1, v0p V1, ↓v0p_b V1, ↓bn_e (e2), e2, vr_0 V2, ↓vr_0_b V2, vr_2 V2, ↓vr_2_b V2, vr_4 V2, ↓vr_4_b V2, vr_5 V2, ↓vr_5_b V2, vr_6 V2, ↓vr_6_b V2, vr_7 V2, ↓vr_7_b V2, vr_8 V2, ↓vr_8_b V2, vr_9 V2, ↓vr_9_b V2, vr_10 V2, ↓vr_10_b V2, vr_11 V2, ↓vr_11_b V2, vr_3 V2, ↓vr_3_b V2, v0i V2, ↓v0i_b V2, v0p V2, ↓v0p_b V2, ↓bn_e (ed), ed]
theorem c_fhs {a : Ab} {t : Nat} {h : Hp} {d n : Int} (HA : AW a) (HN : NL a) (H : CI a t h) (hd : rng d) (hn' : rng n) : Cq (F_cs_feastHouse 0 (J d) (J n) h) h (if inr d (qL a 4 0) ∧ (1 ≤ n ∧ n ≤ 4) then w_phs a d.toNat n.toNat 1 else -1) (t_2 (inr d (qL a 4 0)) (1 ≤ n ∧ n ≤ 4)) := by
  unfold F_cs_feastHouse
  refine cq_2 (V := fun b => w_phs b d.toNat n.toNat 1) (by unfold w_phs; rw [pbs_s]; rfl) jm1 HA H (pr_D HA H hd) (pr_o j_1 j_4 hn' (by omega)) (fun c en b h1 eb A1 H1 => ?_)
  have cl : ¬ qL a 1 0 = 0 := fun x => by have := (HN x).1 4 (by omega); omega
  rw [← eb] at c cl
  obtain ⟨h2, e2, s2, g2, V2, B2⟩ := c_planx (e := 1) A1 H1 cl en (by omega)
  have V1 := H1.1
  have ed := C_houseOf (d := d.toNat) (n := n.toNat) A1 V2 cl B2 (by omega) (by omega)
  rw [show ((d.toNat : Nat) : Int) = d by omega] at ed
  refine ⟨h2, ?_, s2, g2⟩
  try simp only [j_0, j_1, j_2, j_3, j_4, j_5, j_6, j_7, j_8, j_9, j_10, j_11, j_12, j_13, j_14, j_15, j_16, j_17, j_18, j_19, j_20, j_21, j_22, j_23, j_24, j_25, j_26, j_27, j_28, j_29, j_30, j_31, j_32, j_33, j_34, j_35, j_36, j_37, j_38, j_39, j_40, j_41, j_42, j_43, j_44, j_45, j_46, j_47, j_48, j_49, j_50, j_51, j_52, j_57, j_59, j_63, j_74, j_75, j_93, j_97, j_99, j_100, j_122, j_200, j_255, j_300, j_465, j_496, j_900, j_999, j_1000, j_65536, j_65537, j_99999, j_252645135, j_858993459, j_1431655765, k_0, k_1, k_27, k_32, k_74, k_75, k_100, k_1000, k_65537]
  simp (disch := first | with_reducible assumption | omega | trivial) only [↓bn_s1, ↓bd_s1, ↓ei_l1, ↓ei_r1, ↓bn_if, ↓ilt_1, ↓ilt_0, ↓ieq_1, ↓ieq_0, bn_s1, bd_s1, ei_l1, ei_r1, J_add, J_sub, J_mul, J_neg, J_lt, J_le, J_eq, dv_J, rm_J, if_pos, if_neg, ↓reduceIte, bitJ, shlJ, orJ, j_0, j_1, j_2, j_3, j_4, j_5, j_6, j_7, j_8, j_9, j_10, j_11, j_12, j_13, j_14, j_15, j_16, j_17, j_18, j_19, j_20, j_21, j_22, j_23, j_24, j_25, j_26, j_27, j_28, j_29, j_30, j_31, j_32, j_33, j_34, j_35, j_36, j_37, j_38, j_39, j_40, j_41, j_42, j_43, j_44, j_45, j_46, j_47, j_48, j_49, j_50, j_51, j_52, j_57, j_59, j_63, j_74, j_75, j_93, j_97, j_99, j_100, j_122, j_200, j_255, j_300, j_465, j_496, j_900, j_999, j_1000, j_65536, j_65537, j_99999, j_252645135, j_858993459, j_1431655765, k_0, k_1, k_27, k_32, k_74, k_75, k_100, k_1000, k_65537, vr_0 V1, ↓vr_0_b V1, vr_2 V1, ↓vr_2_b V1, vr_4 V1, ↓vr_4_b V1, vr_5 V1, ↓vr_5_b V1, vr_6 V1, ↓vr_6_b V1, vr_7 V1, ↓vr_7_b V1, vr_8 V1, ↓vr_8_b V1, vr_9 V1, ↓vr_9_b V1, vr_10 V1, ↓vr_10_b V1, vr_11 V1, ↓vr_11_b V1, vr_3 V1, ↓vr_3_b V1, v0i V1, ↓v0i_b V1, v0p V1, ↓v0p_b V1, ↓bn_e (e2), e2, vr_0 V2, ↓vr_0_b V2, vr_2 V2, ↓vr_2_b V2, vr_4 V2, ↓vr_4_b V2, vr_5 V2, ↓vr_5_b V2, vr_6 V2, ↓vr_6_b V2, vr_7 V2, ↓vr_7_b V2, vr_8 V2, ↓vr_8_b V2, vr_9 V2, ↓vr_9_b V2, vr_10 V2, ↓vr_10_b V2, vr_11 V2, ↓vr_11_b V2, vr_3 V2, ↓vr_3_b V2, v0i V2, ↓v0i_b V2, v0p V2, ↓v0p_b V2, ↓bn_e (ed), ed]
