/-! house -/
def gbt (S : Sk) (z : Int) (n : Nat) : Nat := und (fun i => if S (25 + i) = z then -1 else 0) n
theorem gbt_s (S : Sk) (z : Int) (n : Nat) : gbt S z (n + 1) = gbt S z n ||| (if S (25 + n) = z then 2 ^ n else 0) := by
  show gbt S z n ||| (if (if S (25 + (n : Int)) = z then (-1 : Int) else 0) < 0 then 2 ^ n else 0) = _
  by_cases c : S (25 + (n : Int)) = z
  · rw [if_pos c, if_pos c, if_pos (by omega)]
  · rw [if_neg c, if_neg c, if_neg (by omega)]
theorem C_guestBits {a : Ab} {t : Nat} {h : Hp} {z : Int} (HA : AW a) (H : CI a t h) (hz : inr z (qL a 1 0)) : F_cs_guestBits 0 (J z) h = some (J (gbt (qS a) z (qL a 3 0).toNat : Nat)) := by
  have b3 := LW_g HA.1
  have b1 := LW_h HA.1
  have V := H.1
  have R := H.2.1
  have el := lq_for (b := B_cs_guestBits_4 0 (J z) h) (r := J (gbt (qS a) z (qL a 3 0).toNat : Nat)) (f := FU) (s := (J 0, J 0)) (fun i => (J (gbt (qS a) z i : Nat), J i)) (qL a 3 0).toNat (by unfold FU; omega) rfl (fun i hi => by
    have v : ia h 46 i = qS a (25 + i) := H.2.2.1.2.1 i (by omega) (by omega)
    have gs := HA.2.1.2.2 i (by omega) (by omega)
    have g1 : gbt (qS a) z i < 32 := und_32 _ (by omega)
    have p1 := pw5 i (by omega)
    have e6 := gbt_s (qS a) z i
    unfold B_cs_guestBits_4
    by_cases c : qS a (25 + i) = z
    · rw [if_pos c] at e6
      simp (disch := first | with_reducible assumption | omega | trivial) only [bn_s1, bd_s1, ei_l1, ei_r1, J_add, J_sub, J_mul, J_neg, J_lt, J_le, J_eq, dv_J, rm_J, if_pos, if_neg, ↓reduceIte, bitJ, shlJ, orJ, j_0, j_1, j_2, j_3, j_4, j_5, j_6, j_7, j_8, j_9, j_10, j_11, j_12, j_13, j_14, j_15, j_16, j_17, j_18, j_19, j_20, j_21, j_22, j_23, j_24, j_25, j_26, j_27, j_28, j_29, j_30, j_31, j_32, j_33, j_34, j_35, j_36, j_37, j_38, j_39, j_40, j_41, j_42, j_43, j_44, j_45, j_46, j_47, j_48, j_49, j_50, j_51, j_52, j_57, j_59, j_63, j_74, j_75, j_93, j_97, j_99, j_100, j_122, j_200, j_255, j_300, j_465, j_496, j_900, j_999, j_1000, j_65536, j_65537, j_99999, j_252645135, j_858993459, j_1431655765, k_0, k_1, k_27, k_32, k_74, k_75, k_100, k_1000, k_65537, vr_0 V, vr_2 V, vr_4 V, vr_5 V, vr_6 V, vr_7 V, vr_8 V, vr_9 V, vr_10 V, vr_11 V, vr_3 V, v0i V, v0p V, ti_0 (XV_ts V) R, ti_1 (XV_ts V) R, ti_5 (XV_ts V) R, ti_8 (XV_ts V) R, ti_11 (XV_ts V) R, ti_14 (XV_ts V) R, ty_0 (XV_ts V) R, ty_4 (XV_ts V) R, trf_18 (XV_ts V), trf_3 (XV_ts V), trf_4 (XV_ts V), trf_6 (XV_ts V), trf_7 (XV_ts V), trf_9 (XV_ts V), trf_10 (XV_ts V), trf_12 (XV_ts V), trf_13 (XV_ts V), trf_15 (XV_ts V), trf_16 (XV_ts V), trf_17 (XV_ts V), try_1 (XV_ts V), try_2 (XV_ts V), try_3 (XV_ts V), try_5 (XV_ts V), try_6 (XV_ts V), ta_3 HA.1 (XV_ts V) R, ta_4 HA.1 (XV_ts V) R, ta_6 HA.1 (XV_ts V) R, ta_7 HA.1 (XV_ts V) R, ta_9 HA.1 (XV_ts V) R, ta_10 HA.1 (XV_ts V) R, ta_12 HA.1 (XV_ts V) R, ta_13 HA.1 (XV_ts V) R, ta_15 HA.1 (XV_ts V) R, ta_16 HA.1 (XV_ts V) R, ta_17 HA.1 (XV_ts V) R, tz_1 HA.1 (XV_ts V) R, tz_2 HA.1 (XV_ts V) R, tz_3 HA.1 (XV_ts V) R, tz_5 HA.1 (XV_ts V) R, tz_6 HA.1 (XV_ts V) R, sr44_0 V, sr44_1 V, s44i V, s44p V, s45a V, s45s V, s46a V, s46s V, v, c, e6]
      rfl
    · rw [if_neg c, Nat.or_zero] at e6
      simp (disch := first | with_reducible assumption | omega | trivial) only [bn_s1, bd_s1, ei_l1, ei_r1, J_add, J_sub, J_mul, J_neg, J_lt, J_le, J_eq, dv_J, rm_J, if_pos, if_neg, ↓reduceIte, bitJ, shlJ, orJ, j_0, j_1, j_2, j_3, j_4, j_5, j_6, j_7, j_8, j_9, j_10, j_11, j_12, j_13, j_14, j_15, j_16, j_17, j_18, j_19, j_20, j_21, j_22, j_23, j_24, j_25, j_26, j_27, j_28, j_29, j_30, j_31, j_32, j_33, j_34, j_35, j_36, j_37, j_38, j_39, j_40, j_41, j_42, j_43, j_44, j_45, j_46, j_47, j_48, j_49, j_50, j_51, j_52, j_57, j_59, j_63, j_74, j_75, j_93, j_97, j_99, j_100, j_122, j_200, j_255, j_300, j_465, j_496, j_900, j_999, j_1000, j_65536, j_65537, j_99999, j_252645135, j_858993459, j_1431655765, k_0, k_1, k_27, k_32, k_74, k_75, k_100, k_1000, k_65537, vr_0 V, vr_2 V, vr_4 V, vr_5 V, vr_6 V, vr_7 V, vr_8 V, vr_9 V, vr_10 V, vr_11 V, vr_3 V, v0i V, v0p V, ti_0 (XV_ts V) R, ti_1 (XV_ts V) R, ti_5 (XV_ts V) R, ti_8 (XV_ts V) R, ti_11 (XV_ts V) R, ti_14 (XV_ts V) R, ty_0 (XV_ts V) R, ty_4 (XV_ts V) R, trf_18 (XV_ts V), trf_3 (XV_ts V), trf_4 (XV_ts V), trf_6 (XV_ts V), trf_7 (XV_ts V), trf_9 (XV_ts V), trf_10 (XV_ts V), trf_12 (XV_ts V), trf_13 (XV_ts V), trf_15 (XV_ts V), trf_16 (XV_ts V), trf_17 (XV_ts V), try_1 (XV_ts V), try_2 (XV_ts V), try_3 (XV_ts V), try_5 (XV_ts V), try_6 (XV_ts V), ta_3 HA.1 (XV_ts V) R, ta_4 HA.1 (XV_ts V) R, ta_6 HA.1 (XV_ts V) R, ta_7 HA.1 (XV_ts V) R, ta_9 HA.1 (XV_ts V) R, ta_10 HA.1 (XV_ts V) R, ta_12 HA.1 (XV_ts V) R, ta_13 HA.1 (XV_ts V) R, ta_15 HA.1 (XV_ts V) R, ta_16 HA.1 (XV_ts V) R, ta_17 HA.1 (XV_ts V) R, tz_1 HA.1 (XV_ts V) R, tz_2 HA.1 (XV_ts V) R, tz_3 HA.1 (XV_ts V) R, tz_5 HA.1 (XV_ts V) R, tz_6 HA.1 (XV_ts V) R, sr44_0 V, sr44_1 V, s44i V, s44p V, s45a V, s45s V, s46a V, s46s V, v, c, e6]
      rfl) (by
    unfold B_cs_guestBits_4
    simp (disch := first | with_reducible assumption | omega | trivial) only [bn_s1, bd_s1, ei_l1, ei_r1, J_add, J_sub, J_mul, J_neg, J_lt, J_le, J_eq, dv_J, rm_J, if_pos, if_neg, ↓reduceIte, bitJ, shlJ, orJ, j_0, j_1, j_2, j_3, j_4, j_5, j_6, j_7, j_8, j_9, j_10, j_11, j_12, j_13, j_14, j_15, j_16, j_17, j_18, j_19, j_20, j_21, j_22, j_23, j_24, j_25, j_26, j_27, j_28, j_29, j_30, j_31, j_32, j_33, j_34, j_35, j_36, j_37, j_38, j_39, j_40, j_41, j_42, j_43, j_44, j_45, j_46, j_47, j_48, j_49, j_50, j_51, j_52, j_57, j_59, j_63, j_74, j_75, j_93, j_97, j_99, j_100, j_122, j_200, j_255, j_300, j_465, j_496, j_900, j_999, j_1000, j_65536, j_65537, j_99999, j_252645135, j_858993459, j_1431655765, k_0, k_1, k_27, k_32, k_74, k_75, k_100, k_1000, k_65537, vr_0 V, vr_2 V, vr_4 V, vr_5 V, vr_6 V, vr_7 V, vr_8 V, vr_9 V, vr_10 V, vr_11 V, vr_3 V, v0i V, v0p V, ti_0 (XV_ts V) R, ti_1 (XV_ts V) R, ti_5 (XV_ts V) R, ti_8 (XV_ts V) R, ti_11 (XV_ts V) R, ti_14 (XV_ts V) R, ty_0 (XV_ts V) R, ty_4 (XV_ts V) R, trf_18 (XV_ts V), trf_3 (XV_ts V), trf_4 (XV_ts V), trf_6 (XV_ts V), trf_7 (XV_ts V), trf_9 (XV_ts V), trf_10 (XV_ts V), trf_12 (XV_ts V), trf_13 (XV_ts V), trf_15 (XV_ts V), trf_16 (XV_ts V), trf_17 (XV_ts V), try_1 (XV_ts V), try_2 (XV_ts V), try_3 (XV_ts V), try_5 (XV_ts V), try_6 (XV_ts V), ta_3 HA.1 (XV_ts V) R, ta_4 HA.1 (XV_ts V) R, ta_6 HA.1 (XV_ts V) R, ta_7 HA.1 (XV_ts V) R, ta_9 HA.1 (XV_ts V) R, ta_10 HA.1 (XV_ts V) R, ta_12 HA.1 (XV_ts V) R, ta_13 HA.1 (XV_ts V) R, ta_15 HA.1 (XV_ts V) R, ta_16 HA.1 (XV_ts V) R, ta_17 HA.1 (XV_ts V) R, tz_1 HA.1 (XV_ts V) R, tz_2 HA.1 (XV_ts V) R, tz_3 HA.1 (XV_ts V) R, tz_5 HA.1 (XV_ts V) R, tz_6 HA.1 (XV_ts V) R])
  unfold F_cs_guestBits
  rw [ck_e (XS_k (XV_x V))]
  simp (disch := first | with_reducible assumption | omega | trivial) only [bn_s1, bd_s1, ei_l1, ei_r1, J_add, J_sub, J_mul, J_neg, J_lt, J_le, J_eq, dv_J, rm_J, if_pos, if_neg, ↓reduceIte, bitJ, shlJ, orJ, j_0, j_1, j_2, j_3, j_4, j_5, j_6, j_7, j_8, j_9, j_10, j_11, j_12, j_13, j_14, j_15, j_16, j_17, j_18, j_19, j_20, j_21, j_22, j_23, j_24, j_25, j_26, j_27, j_28, j_29, j_30, j_31, j_32, j_33, j_34, j_35, j_36, j_37, j_38, j_39, j_40, j_41, j_42, j_43, j_44, j_45, j_46, j_47, j_48, j_49, j_50, j_51, j_52, j_57, j_59, j_63, j_74, j_75, j_93, j_97, j_99, j_100, j_122, j_200, j_255, j_300, j_465, j_496, j_900, j_999, j_1000, j_65536, j_65537, j_99999, j_252645135, j_858993459, j_1431655765, k_0, k_1, k_27, k_32, k_74, k_75, k_100, k_1000, k_65537, el]
theorem D_guestsAt {a : Ab} {b : Nat} {h : Hp} {z : Int} (HA : AW a) (C : RC (qL a) b h) (X : XR (qS a) h) (hz : inr z (qL a 1 0)) : F_md_guestsAt 88 (J z) h = some (J (gbt (qS a) z (qL a 3 0).toNat : Nat)) := by
  have b3 := LW_g HA.1
  have b1 := LW_h HA.1
  have el := lq_for (b := B_md_guestsAt_4 88 (J z) h) (r := J (gbt (qS a) z (qL a 3 0).toNat : Nat)) (f := FU) (s := (J 0, J 0)) (fun i => (J (gbt (qS a) z i : Nat), J i)) (qL a 3 0).toNat (by unfold FU; omega) rfl (fun i hi => by
    have gs := HA.2.1.2.2 i (by omega) (by omega)
    have g1 : gbt (qS a) z i < 32 := und_32 _ (by omega)
    have p1 := pw5 i (by omega)
    have e6 := gbt_s (qS a) z i
    have o0 := orJ (n := gbt (qS a) z i) (m := 0) g1 (by omega)
    unfold B_md_guestsAt_4
    by_cases c : qS a (25 + i) = z
    · rw [if_pos c] at e6
      simp (disch := first | with_reducible assumption | omega | trivial) only [bn_s1, bd_s1, ei_l1, ei_r1, J_add, J_sub, J_mul, J_neg, J_lt, J_le, J_eq, dv_J, rm_J, if_pos, if_neg, ↓reduceIte, bitJ, shlJ, orJ, j_0, j_1, j_2, j_3, j_4, j_5, j_6, j_7, j_8, j_9, j_10, j_11, j_12, j_13, j_14, j_15, j_16, j_17, j_18, j_19, j_20, j_21, j_22, j_23, j_24, j_25, j_26, j_27, j_28, j_29, j_30, j_31, j_32, j_33, j_34, j_35, j_36, j_37, j_38, j_39, j_40, j_41, j_42, j_43, j_44, j_45, j_46, j_47, j_48, j_49, j_50, j_51, j_52, j_57, j_59, j_63, j_74, j_75, j_93, j_97, j_99, j_100, j_122, j_200, j_255, j_300, j_465, j_496, j_900, j_999, j_1000, j_65536, j_65537, j_99999, j_252645135, j_858993459, j_1431655765, k_0, k_1, k_27, k_32, k_74, k_75, k_100, k_1000, k_65537, cl_r C, cl_q C, ci_0 C, ci_1 C, ci_2 C, ci_3 C, ci_4 C, ci_5 C, ci_6 C, ci_7 C, cr_9 C, cr_10 C, cr_11 C, cr_13 C, cr_14 C, cr_15 C, cr_16 C, cr_17 C, cr_18 C, cr_19 C, cr_20 C, cr_21 C, cr_22 C, cr_23 C, cr_24 C, cr_25 C, cr_26 C, ca_9 HA.1 C, ca_10 HA.1 C, ca_11 HA.1 C, ca_13 HA.1 C, ca_14 HA.1 C, ca_15 HA.1 C, ca_16 HA.1 C, ca_17 HA.1 C, ca_18 HA.1 C, ca_19 HA.1 C, ca_20 HA.1 C, ca_21 HA.1 C, ca_22 HA.1 C, ca_23 HA.1 C, ca_24 HA.1 C, ca_25 HA.1 C, ca_26 HA.1 C, m_i C.1, m_p C.1, m_l C.1, m_pl C.1, mr_15 C.1, mr_16 C.1, mr_17 C.1, mr_18 C.1, mr_21 C.1, mr_22 C.1, mr_23 C.1, mr_24 C.1, mr_25 C.1, mr_30 C.1, mr_31 C.1, x_a C.1 X, c, e6]
      rfl
    · rw [if_neg c, Nat.or_zero] at e6
      rw [Nat.or_zero] at o0
      replace o0 : J (gbt (qS a) z i : Nat) ||| J 0 = J (gbt (qS a) z i : Nat) := o0
      simp (disch := first | with_reducible assumption | omega | trivial) only [bn_s1, bd_s1, ei_l1, ei_r1, J_add, J_sub, J_mul, J_neg, J_lt, J_le, J_eq, dv_J, rm_J, if_pos, if_neg, ↓reduceIte, bitJ, shlJ, orJ, j_0, j_1, j_2, j_3, j_4, j_5, j_6, j_7, j_8, j_9, j_10, j_11, j_12, j_13, j_14, j_15, j_16, j_17, j_18, j_19, j_20, j_21, j_22, j_23, j_24, j_25, j_26, j_27, j_28, j_29, j_30, j_31, j_32, j_33, j_34, j_35, j_36, j_37, j_38, j_39, j_40, j_41, j_42, j_43, j_44, j_45, j_46, j_47, j_48, j_49, j_50, j_51, j_52, j_57, j_59, j_63, j_74, j_75, j_93, j_97, j_99, j_100, j_122, j_200, j_255, j_300, j_465, j_496, j_900, j_999, j_1000, j_65536, j_65537, j_99999, j_252645135, j_858993459, j_1431655765, k_0, k_1, k_27, k_32, k_74, k_75, k_100, k_1000, k_65537, cl_r C, cl_q C, ci_0 C, ci_1 C, ci_2 C, ci_3 C, ci_4 C, ci_5 C, ci_6 C, ci_7 C, cr_9 C, cr_10 C, cr_11 C, cr_13 C, cr_14 C, cr_15 C, cr_16 C, cr_17 C, cr_18 C, cr_19 C, cr_20 C, cr_21 C, cr_22 C, cr_23 C, cr_24 C, cr_25 C, cr_26 C, ca_9 HA.1 C, ca_10 HA.1 C, ca_11 HA.1 C, ca_13 HA.1 C, ca_14 HA.1 C, ca_15 HA.1 C, ca_16 HA.1 C, ca_17 HA.1 C, ca_18 HA.1 C, ca_19 HA.1 C, ca_20 HA.1 C, ca_21 HA.1 C, ca_22 HA.1 C, ca_23 HA.1 C, ca_24 HA.1 C, ca_25 HA.1 C, ca_26 HA.1 C, m_i C.1, m_p C.1, m_l C.1, m_pl C.1, mr_15 C.1, mr_16 C.1, mr_17 C.1, mr_18 C.1, mr_21 C.1, mr_22 C.1, mr_23 C.1, mr_24 C.1, mr_25 C.1, mr_30 C.1, mr_31 C.1, x_a C.1 X, c, e6, o0]
      rfl) (by
    unfold B_md_guestsAt_4
    simp (disch := first | with_reducible assumption | omega | trivial) only [bn_s1, bd_s1, ei_l1, ei_r1, J_add, J_sub, J_mul, J_neg, J_lt, J_le, J_eq, dv_J, rm_J, if_pos, if_neg, ↓reduceIte, bitJ, shlJ, orJ, j_0, j_1, j_2, j_3, j_4, j_5, j_6, j_7, j_8, j_9, j_10, j_11, j_12, j_13, j_14, j_15, j_16, j_17, j_18, j_19, j_20, j_21, j_22, j_23, j_24, j_25, j_26, j_27, j_28, j_29, j_30, j_31, j_32, j_33, j_34, j_35, j_36, j_37, j_38, j_39, j_40, j_41, j_42, j_43, j_44, j_45, j_46, j_47, j_48, j_49, j_50, j_51, j_52, j_57, j_59, j_63, j_74, j_75, j_93, j_97, j_99, j_100, j_122, j_200, j_255, j_300, j_465, j_496, j_900, j_999, j_1000, j_65536, j_65537, j_99999, j_252645135, j_858993459, j_1431655765, k_0, k_1, k_27, k_32, k_74, k_75, k_100, k_1000, k_65537, cl_r C, cl_q C, ci_0 C, ci_1 C, ci_2 C, ci_3 C, ci_4 C, ci_5 C, ci_6 C, ci_7 C, cr_9 C, cr_10 C, cr_11 C, cr_13 C, cr_14 C, cr_15 C, cr_16 C, cr_17 C, cr_18 C, cr_19 C, cr_20 C, cr_21 C, cr_22 C, cr_23 C, cr_24 C, cr_25 C, cr_26 C, ca_9 HA.1 C, ca_10 HA.1 C, ca_11 HA.1 C, ca_13 HA.1 C, ca_14 HA.1 C, ca_15 HA.1 C, ca_16 HA.1 C, ca_17 HA.1 C, ca_18 HA.1 C, ca_19 HA.1 C, ca_20 HA.1 C, ca_21 HA.1 C, ca_22 HA.1 C, ca_23 HA.1 C, ca_24 HA.1 C, ca_25 HA.1 C, ca_26 HA.1 C, m_i C.1, m_p C.1, m_l C.1, m_pl C.1, mr_15 C.1, mr_16 C.1, mr_17 C.1, mr_18 C.1, mr_21 C.1, mr_22 C.1, mr_23 C.1, mr_24 C.1, mr_25 C.1, mr_30 C.1, mr_31 C.1])
  unfold F_md_guestsAt
  rw [ck_e (MS_k C.1)]
  simp (disch := first | with_reducible assumption | omega | trivial) only [bn_s1, bd_s1, ei_l1, ei_r1, J_add, J_sub, J_mul, J_neg, J_lt, J_le, J_eq, dv_J, rm_J, if_pos, if_neg, ↓reduceIte, bitJ, shlJ, orJ, j_0, j_1, j_2, j_3, j_4, j_5, j_6, j_7, j_8, j_9, j_10, j_11, j_12, j_13, j_14, j_15, j_16, j_17, j_18, j_19, j_20, j_21, j_22, j_23, j_24, j_25, j_26, j_27, j_28, j_29, j_30, j_31, j_32, j_33, j_34, j_35, j_36, j_37, j_38, j_39, j_40, j_41, j_42, j_43, j_44, j_45, j_46, j_47, j_48, j_49, j_50, j_51, j_52, j_57, j_59, j_63, j_74, j_75, j_93, j_97, j_99, j_100, j_122, j_200, j_255, j_300, j_465, j_496, j_900, j_999, j_1000, j_65536, j_65537, j_99999, j_252645135, j_858993459, j_1431655765, k_0, k_1, k_27, k_32, k_74, k_75, k_100, k_1000, k_65537, el]
def w_hou (a : Ab) (z k : Int) : Int := if k = 0 then qL a 9 z else if k = 1 then wgt (qL a) (qS a) z else if k = 2 then lft (qS a) z else if k = 3 then 1000 + hgt (qL a) (qS a) z else if k = 4 then (raft (qL a) (qS a 28).toNat z : Nat) else (gbt (qS a) z (qL a 3 0).toNat : Nat)
theorem c_hou {a : Ab} {t : Nat} {h : Hp} {z k : Int} (HA : AW a) (H : CI a t h) (hz : rng z) (hk : rng k) : Cq (F_cs_house 0 (J z) (J k) h) h (if inr z (qL a 1 0) ∧ (0 ≤ k ∧ k ≤ 5) then w_hou a z k else -1) (t_p (inr z (qL a 1 0) ∧ (0 ≤ k ∧ k ≤ 5))) := by
  unfold F_cs_house
  refine cq_3 (V := fun b => w_hou b z k) rfl jm1 HA H (pr_or (pr_H HA H hz) (fun _ => pr_o j_0 j_5 hk (by omega))) (fun c b h1 eb A1 H1 => ?_)
  obtain ⟨c, d⟩ := c
  rw [← eb] at c
  obtain ⟨h2, e2, s2, g2, m2⟩ := C_meas A1 H1
  have V1 := H1.1
  have V2 := XV_fm s2.1 (by omega) V1
  have o := XV_o V1
  have R2 := sc_TR s2 o H1.2.1
  have S2 := sc_SR s2 H1.2.2.1
  have H2 := CI_q s2 g2 H1
  have b1 := LW_h A1.1
  have sw := A1.2.1.1
  have kt : (J k).toInt = k := J_to hk.1 hk.2
  have e9 := LW_hs A1.1 z c.1 c.2
  refine ⟨h2, ?_, s2, g2⟩
  show _ = some (J (w_hou b z k), h2)
  unfold w_hou
  by_cases k0 : k = 0
  · rw [if_pos k0]
    have en := C_isNorthZ A1.1 (XV_ts V2) R2 c.1 c.2
    by_cases c9 : qL b 9 z = 0
    · rw [if_pos c9] at en
      rw [c9]
      simp (disch := first | with_reducible assumption | omega | trivial) only [bn_s1, bd_s1, ei_l1, ei_r1, J_add, J_sub, J_mul, J_neg, J_lt, J_le, J_eq, dv_J, rm_J, if_pos, if_neg, ↓reduceIte, bitJ, shlJ, orJ, j_0, j_1, j_2, j_3, j_4, j_5, j_6, j_7, j_8, j_9, j_10, j_11, j_12, j_13, j_14, j_15, j_16, j_17, j_18, j_19, j_20, j_21, j_22, j_23, j_24, j_25, j_26, j_27, j_28, j_29, j_30, j_31, j_32, j_33, j_34, j_35, j_36, j_37, j_38, j_39, j_40, j_41, j_42, j_43, j_44, j_45, j_46, j_47, j_48, j_49, j_50, j_51, j_52, j_57, j_59, j_63, j_74, j_75, j_93, j_97, j_99, j_100, j_122, j_200, j_255, j_300, j_465, j_496, j_900, j_999, j_1000, j_65536, j_65537, j_99999, j_252645135, j_858993459, j_1431655765, k_0, k_1, k_27, k_32, k_74, k_75, k_100, k_1000, k_65537, vr_0 V1, vr_2 V1, vr_4 V1, vr_5 V1, vr_6 V1, vr_7 V1, vr_8 V1, vr_9 V1, vr_10 V1, vr_11 V1, vr_3 V1, v0i V1, v0p V1, e2, kt, vr_0 V2, vr_2 V2, vr_4 V2, vr_5 V2, vr_6 V2, vr_7 V2, vr_8 V2, vr_9 V2, vr_10 V2, vr_11 V2, vr_3 V2, v0i V2, v0p V2, en]
    · rw [if_neg c9] at en
      rw [show qL b 9 z = 1 by omega]
      simp (disch := first | with_reducible assumption | omega | trivial) only [bn_s1, bd_s1, ei_l1, ei_r1, J_add, J_sub, J_mul, J_neg, J_lt, J_le, J_eq, dv_J, rm_J, if_pos, if_neg, ↓reduceIte, bitJ, shlJ, orJ, j_0, j_1, j_2, j_3, j_4, j_5, j_6, j_7, j_8, j_9, j_10, j_11, j_12, j_13, j_14, j_15, j_16, j_17, j_18, j_19, j_20, j_21, j_22, j_23, j_24, j_25, j_26, j_27, j_28, j_29, j_30, j_31, j_32, j_33, j_34, j_35, j_36, j_37, j_38, j_39, j_40, j_41, j_42, j_43, j_44, j_45, j_46, j_47, j_48, j_49, j_50, j_51, j_52, j_57, j_59, j_63, j_74, j_75, j_93, j_97, j_99, j_100, j_122, j_200, j_255, j_300, j_465, j_496, j_900, j_999, j_1000, j_65536, j_65537, j_99999, j_252645135, j_858993459, j_1431655765, k_0, k_1, k_27, k_32, k_74, k_75, k_100, k_1000, k_65537, vr_0 V1, vr_2 V1, vr_4 V1, vr_5 V1, vr_6 V1, vr_7 V1, vr_8 V1, vr_9 V1, vr_10 V1, vr_11 V1, vr_3 V1, v0i V1, v0p V1, e2, kt, vr_0 V2, vr_2 V2, vr_4 V2, vr_5 V2, vr_6 V2, vr_7 V2, vr_8 V2, vr_9 V2, vr_10 V2, vr_11 V2, vr_3 V2, v0i V2, v0p V2, en]
  · rw [if_neg k0]
    by_cases k1 : k = 1
    · rw [if_pos k1]
      have en := C_weightAt A1.1 (XV_ts V2) R2 (XV_s44 V2) S2 c.1 c.2 sw.2.2.1
      simp (disch := first | with_reducible assumption | omega | trivial) only [bn_s1, bd_s1, ei_l1, ei_r1, J_add, J_sub, J_mul, J_neg, J_lt, J_le, J_eq, dv_J, rm_J, if_pos, if_neg, ↓reduceIte, bitJ, shlJ, orJ, j_0, j_1, j_2, j_3, j_4, j_5, j_6, j_7, j_8, j_9, j_10, j_11, j_12, j_13, j_14, j_15, j_16, j_17, j_18, j_19, j_20, j_21, j_22, j_23, j_24, j_25, j_26, j_27, j_28, j_29, j_30, j_31, j_32, j_33, j_34, j_35, j_36, j_37, j_38, j_39, j_40, j_41, j_42, j_43, j_44, j_45, j_46, j_47, j_48, j_49, j_50, j_51, j_52, j_57, j_59, j_63, j_74, j_75, j_93, j_97, j_99, j_100, j_122, j_200, j_255, j_300, j_465, j_496, j_900, j_999, j_1000, j_65536, j_65537, j_99999, j_252645135, j_858993459, j_1431655765, k_0, k_1, k_27, k_32, k_74, k_75, k_100, k_1000, k_65537, vr_0 V1, vr_2 V1, vr_4 V1, vr_5 V1, vr_6 V1, vr_7 V1, vr_8 V1, vr_9 V1, vr_10 V1, vr_11 V1, vr_3 V1, v0i V1, v0p V1, e2, kt, vr_0 V2, vr_2 V2, vr_4 V2, vr_5 V2, vr_6 V2, vr_7 V2, vr_8 V2, vr_9 V2, vr_10 V2, vr_11 V2, vr_3 V2, v0i V2, v0p V2, en]
    · rw [if_neg k1]
      by_cases k2 : k = 2
      · rw [if_pos k2]
        have en := C_liftUnder (XV_c V2) (XV_s44 V2) S2.1 c.1 (by omega)
        simp (disch := first | with_reducible assumption | omega | trivial) only [bn_s1, bd_s1, ei_l1, ei_r1, J_add, J_sub, J_mul, J_neg, J_lt, J_le, J_eq, dv_J, rm_J, if_pos, if_neg, ↓reduceIte, bitJ, shlJ, orJ, j_0, j_1, j_2, j_3, j_4, j_5, j_6, j_7, j_8, j_9, j_10, j_11, j_12, j_13, j_14, j_15, j_16, j_17, j_18, j_19, j_20, j_21, j_22, j_23, j_24, j_25, j_26, j_27, j_28, j_29, j_30, j_31, j_32, j_33, j_34, j_35, j_36, j_37, j_38, j_39, j_40, j_41, j_42, j_43, j_44, j_45, j_46, j_47, j_48, j_49, j_50, j_51, j_52, j_57, j_59, j_63, j_74, j_75, j_93, j_97, j_99, j_100, j_122, j_200, j_255, j_300, j_465, j_496, j_900, j_999, j_1000, j_65536, j_65537, j_99999, j_252645135, j_858993459, j_1431655765, k_0, k_1, k_27, k_32, k_74, k_75, k_100, k_1000, k_65537, vr_0 V1, vr_2 V1, vr_4 V1, vr_5 V1, vr_6 V1, vr_7 V1, vr_8 V1, vr_9 V1, vr_10 V1, vr_11 V1, vr_3 V1, v0i V1, v0p V1, e2, kt, vr_0 V2, vr_2 V2, vr_4 V2, vr_5 V2, vr_6 V2, vr_7 V2, vr_8 V2, vr_9 V2, vr_10 V2, vr_11 V2, vr_3 V2, v0i V2, v0p V2, en]
      · rw [if_neg k2]
        by_cases k3 : k = 3
        · rw [if_pos k3]
          have v := RM_ia m2 c.1 c.2
          simp (disch := first | with_reducible assumption | omega | trivial) only [bn_s1, bd_s1, ei_l1, ei_r1, J_add, J_sub, J_mul, J_neg, J_lt, J_le, J_eq, dv_J, rm_J, if_pos, if_neg, ↓reduceIte, bitJ, shlJ, orJ, j_0, j_1, j_2, j_3, j_4, j_5, j_6, j_7, j_8, j_9, j_10, j_11, j_12, j_13, j_14, j_15, j_16, j_17, j_18, j_19, j_20, j_21, j_22, j_23, j_24, j_25, j_26, j_27, j_28, j_29, j_30, j_31, j_32, j_33, j_34, j_35, j_36, j_37, j_38, j_39, j_40, j_41, j_42, j_43, j_44, j_45, j_46, j_47, j_48, j_49, j_50, j_51, j_52, j_57, j_59, j_63, j_74, j_75, j_93, j_97, j_99, j_100, j_122, j_200, j_255, j_300, j_465, j_496, j_900, j_999, j_1000, j_65536, j_65537, j_99999, j_252645135, j_858993459, j_1431655765, k_0, k_1, k_27, k_32, k_74, k_75, k_100, k_1000, k_65537, vr_0 V1, vr_2 V1, vr_4 V1, vr_5 V1, vr_6 V1, vr_7 V1, vr_8 V1, vr_9 V1, vr_10 V1, vr_11 V1, vr_3 V1, v0i V1, v0p V1, e2, kt, vr_0 V2, vr_2 V2, vr_4 V2, vr_5 V2, vr_6 V2, vr_7 V2, vr_8 V2, vr_9 V2, vr_10 V2, vr_11 V2, vr_3 V2, v0i V2, v0p V2, rr50_1 V2, r51a V2, r51s V2, rr50_2 V2, r52a V2, r52s V2, rr50_3 V2, r53a V2, r53s V2, r50i V2, r50p V2, v]
          rw [Int.add_comm]
        · rw [if_neg k3]
          by_cases k4 : k = 4
          · rw [if_pos k4]
            have v : ia h2 52 z = (raft (qL b) (qS b 28).toNat z : Nat) := m2.2.2.1 z c.1 c.2
            simp (disch := first | with_reducible assumption | omega | trivial) only [bn_s1, bd_s1, ei_l1, ei_r1, J_add, J_sub, J_mul, J_neg, J_lt, J_le, J_eq, dv_J, rm_J, if_pos, if_neg, ↓reduceIte, bitJ, shlJ, orJ, j_0, j_1, j_2, j_3, j_4, j_5, j_6, j_7, j_8, j_9, j_10, j_11, j_12, j_13, j_14, j_15, j_16, j_17, j_18, j_19, j_20, j_21, j_22, j_23, j_24, j_25, j_26, j_27, j_28, j_29, j_30, j_31, j_32, j_33, j_34, j_35, j_36, j_37, j_38, j_39, j_40, j_41, j_42, j_43, j_44, j_45, j_46, j_47, j_48, j_49, j_50, j_51, j_52, j_57, j_59, j_63, j_74, j_75, j_93, j_97, j_99, j_100, j_122, j_200, j_255, j_300, j_465, j_496, j_900, j_999, j_1000, j_65536, j_65537, j_99999, j_252645135, j_858993459, j_1431655765, k_0, k_1, k_27, k_32, k_74, k_75, k_100, k_1000, k_65537, vr_0 V1, vr_2 V1, vr_4 V1, vr_5 V1, vr_6 V1, vr_7 V1, vr_8 V1, vr_9 V1, vr_10 V1, vr_11 V1, vr_3 V1, v0i V1, v0p V1, e2, kt, vr_0 V2, vr_2 V2, vr_4 V2, vr_5 V2, vr_6 V2, vr_7 V2, vr_8 V2, vr_9 V2, vr_10 V2, vr_11 V2, vr_3 V2, v0i V2, v0p V2, rr50_1 V2, r51a V2, r51s V2, rr50_2 V2, r52a V2, r52s V2, rr50_3 V2, r53a V2, r53s V2, r50i V2, r50p V2, v]
          · rw [if_neg k4]
            have en := C_guestBits (AW_w (v := fi h1 0 12) (by have := H1.2.2.2.2.2.1; have := A1.2.2.2.2.2.1; omega) A1) H2 c
            replace en : F_cs_guestBits 0 (J z) h2 = some (J (gbt (qS b) z (qL b 3 0).toNat : Nat)) := en
            simp (disch := first | with_reducible assumption | omega | trivial) only [bn_s1, bd_s1, ei_l1, ei_r1, J_add, J_sub, J_mul, J_neg, J_lt, J_le, J_eq, dv_J, rm_J, if_pos, if_neg, ↓reduceIte, bitJ, shlJ, orJ, j_0, j_1, j_2, j_3, j_4, j_5, j_6, j_7, j_8, j_9, j_10, j_11, j_12, j_13, j_14, j_15, j_16, j_17, j_18, j_19, j_20, j_21, j_22, j_23, j_24, j_25, j_26, j_27, j_28, j_29, j_30, j_31, j_32, j_33, j_34, j_35, j_36, j_37, j_38, j_39, j_40, j_41, j_42, j_43, j_44, j_45, j_46, j_47, j_48, j_49, j_50, j_51, j_52, j_57, j_59, j_63, j_74, j_75, j_93, j_97, j_99, j_100, j_122, j_200, j_255, j_300, j_465, j_496, j_900, j_999, j_1000, j_65536, j_65537, j_99999, j_252645135, j_858993459, j_1431655765, k_0, k_1, k_27, k_32, k_74, k_75, k_100, k_1000, k_65537, vr_0 V1, vr_2 V1, vr_4 V1, vr_5 V1, vr_6 V1, vr_7 V1, vr_8 V1, vr_9 V1, vr_10 V1, vr_11 V1, vr_3 V1, v0i V1, v0p V1, e2, kt, vr_0 V2, vr_2 V2, vr_4 V2, vr_5 V2, vr_6 V2, vr_7 V2, vr_8 V2, vr_9 V2, vr_10 V2, vr_11 V2, vr_3 V2, v0i V2, v0p V2, en]
theorem d_hou {a : Ab} {h : Hp} {z k : Int} (HA : AW a) (H : RI a h) (hz : rng z) (hk : rng k) : Dq (F_md_house 88 (J z) (J k) h) h (if inr z (qL a 1 0) ∧ (0 ≤ k ∧ k ≤ 5) then w_hou a z k else -1) (t_p (inr z (qL a 1 0) ∧ (0 ≤ k ∧ k ≤ 5))) := by
  have kx := MS_k H.1
  have H1 := RI_0 H
  have b1 := LW_h HA.1
  have ei := in_x (n := k) (lo := 0) (hi := 5) rfl rfl hk (by omega)
  have eh := pr_i1 HA H1 hz
  unfold F_md_house t_p
  rw [ck_e kx]
  apply dq_0
  by_cases c : inr z (qL a 1 0)
  · rw [if_pos c] at eh
    by_cases d : 0 ≤ k ∧ k ≤ 5
    · rw [if_pos d] at ei
      have cd : inr z (qL a 1 0) ∧ (0 ≤ k ∧ k ≤ 5) := ⟨c, d⟩
      rw [if_pos cd, if_pos cd]
      obtain ⟨b, C1⟩ := lk_1 H1 (by omega)
      obtain ⟨h2, e2, q2, x2, s2⟩ := wrk HA H1
      have C2 := RC_qr q2 C1
      have kt : (J k).toInt = k := J_to hk.1 hk.2
      refine (fun (g : ∃ h3, F_md_good 88 (J (w_hou a z k)) h2 = some (J (w_hou a z k), h3) ∧ Qr h2 h3 ∧ fi h3 88 1 = 0 ∧ fi h3 88 2 = -1) => ?_) (good_e C2.1)
      obtain ⟨h3, e3, q3, f3⟩ := g
      refine ⟨h3, ?_, qr_tr q2 q3, f3⟩
      unfold w_hou at e3 ⊢
      by_cases k0 : k = 0
      · rw [if_pos k0] at e3 ⊢
        simp (disch := first | with_reducible assumption | omega | trivial) only [bn_s1, bd_s1, ei_l1, ei_r1, J_add, J_sub, J_mul, J_neg, J_lt, J_le, J_eq, dv_J, rm_J, if_pos, if_neg, ↓reduceIte, bitJ, shlJ, orJ, j_0, j_1, j_2, j_3, j_4, j_5, j_6, j_7, j_8, j_9, j_10, j_11, j_12, j_13, j_14, j_15, j_16, j_17, j_18, j_19, j_20, j_21, j_22, j_23, j_24, j_25, j_26, j_27, j_28, j_29, j_30, j_31, j_32, j_33, j_34, j_35, j_36, j_37, j_38, j_39, j_40, j_41, j_42, j_43, j_44, j_45, j_46, j_47, j_48, j_49, j_50, j_51, j_52, j_57, j_59, j_63, j_74, j_75, j_93, j_97, j_99, j_100, j_122, j_200, j_255, j_300, j_465, j_496, j_900, j_999, j_1000, j_65536, j_65537, j_99999, j_252645135, j_858993459, j_1431655765, k_0, k_1, k_27, k_32, k_74, k_75, k_100, k_1000, k_65537, pI_J kx, eh, j_0, ei, e2, kt, cl_r C2, cl_q C2, ci_0 C2, ci_1 C2, ci_2 C2, ci_3 C2, ci_4 C2, ci_5 C2, ci_6 C2, ci_7 C2, cr_9 C2, cr_10 C2, cr_11 C2, cr_13 C2, cr_14 C2, cr_15 C2, cr_16 C2, cr_17 C2, cr_18 C2, cr_19 C2, cr_20 C2, cr_21 C2, cr_22 C2, cr_23 C2, cr_24 C2, cr_25 C2, cr_26 C2, ca_9 HA.1 C2, ca_10 HA.1 C2, ca_11 HA.1 C2, ca_13 HA.1 C2, ca_14 HA.1 C2, ca_15 HA.1 C2, ca_16 HA.1 C2, ca_17 HA.1 C2, ca_18 HA.1 C2, ca_19 HA.1 C2, ca_20 HA.1 C2, ca_21 HA.1 C2, ca_22 HA.1 C2, ca_23 HA.1 C2, ca_24 HA.1 C2, ca_25 HA.1 C2, ca_26 HA.1 C2, m_i C2.1, m_p C2.1, m_l C2.1, m_pl C2.1, mr_15 C2.1, mr_16 C2.1, mr_17 C2.1, mr_18 C2.1, mr_21 C2.1, mr_22 C2.1, mr_23 C2.1, mr_24 C2.1, mr_25 C2.1, mr_30 C2.1, mr_31 C2.1, e3]
      · rw [if_neg k0] at e3 ⊢
        by_cases k1 : k = 1
        · rw [if_pos k1] at e3 ⊢
          have en := D_weightOf HA.1 C2 x2 c.1 c.2 s2.1
          simp (disch := first | with_reducible assumption | omega | trivial) only [bn_s1, bd_s1, ei_l1, ei_r1, J_add, J_sub, J_mul, J_neg, J_lt, J_le, J_eq, dv_J, rm_J, if_pos, if_neg, ↓reduceIte, bitJ, shlJ, orJ, j_0, j_1, j_2, j_3, j_4, j_5, j_6, j_7, j_8, j_9, j_10, j_11, j_12, j_13, j_14, j_15, j_16, j_17, j_18, j_19, j_20, j_21, j_22, j_23, j_24, j_25, j_26, j_27, j_28, j_29, j_30, j_31, j_32, j_33, j_34, j_35, j_36, j_37, j_38, j_39, j_40, j_41, j_42, j_43, j_44, j_45, j_46, j_47, j_48, j_49, j_50, j_51, j_52, j_57, j_59, j_63, j_74, j_75, j_93, j_97, j_99, j_100, j_122, j_200, j_255, j_300, j_465, j_496, j_900, j_999, j_1000, j_65536, j_65537, j_99999, j_252645135, j_858993459, j_1431655765, k_0, k_1, k_27, k_32, k_74, k_75, k_100, k_1000, k_65537, pI_J kx, eh, ei, e2, kt, en, e3]
        · rw [if_neg k1] at e3 ⊢
          by_cases k2 : k = 2
          · rw [if_pos k2] at e3 ⊢
            have en := D_liftOf C2 x2 c.1 (show z < 5 by omega)
            simp (disch := first | with_reducible assumption | omega | trivial) only [bn_s1, bd_s1, ei_l1, ei_r1, J_add, J_sub, J_mul, J_neg, J_lt, J_le, J_eq, dv_J, rm_J, if_pos, if_neg, ↓reduceIte, bitJ, shlJ, orJ, j_0, j_1, j_2, j_3, j_4, j_5, j_6, j_7, j_8, j_9, j_10, j_11, j_12, j_13, j_14, j_15, j_16, j_17, j_18, j_19, j_20, j_21, j_22, j_23, j_24, j_25, j_26, j_27, j_28, j_29, j_30, j_31, j_32, j_33, j_34, j_35, j_36, j_37, j_38, j_39, j_40, j_41, j_42, j_43, j_44, j_45, j_46, j_47, j_48, j_49, j_50, j_51, j_52, j_57, j_59, j_63, j_74, j_75, j_93, j_97, j_99, j_100, j_122, j_200, j_255, j_300, j_465, j_496, j_900, j_999, j_1000, j_65536, j_65537, j_99999, j_252645135, j_858993459, j_1431655765, k_0, k_1, k_27, k_32, k_74, k_75, k_100, k_1000, k_65537, pI_J kx, eh, ei, e2, kt, en, e3]
          · rw [if_neg k2] at e3 ⊢
            by_cases k3 : k = 3
            · rw [if_pos k3] at e3 ⊢
              have en := D_heightOfZ HA.1 C2 x2 s2 c.1 c.2
              simp (disch := first | with_reducible assumption | omega | trivial) only [bn_s1, bd_s1, ei_l1, ei_r1, J_add, J_sub, J_mul, J_neg, J_lt, J_le, J_eq, dv_J, rm_J, if_pos, if_neg, ↓reduceIte, bitJ, shlJ, orJ, j_0, j_1, j_2, j_3, j_4, j_5, j_6, j_7, j_8, j_9, j_10, j_11, j_12, j_13, j_14, j_15, j_16, j_17, j_18, j_19, j_20, j_21, j_22, j_23, j_24, j_25, j_26, j_27, j_28, j_29, j_30, j_31, j_32, j_33, j_34, j_35, j_36, j_37, j_38, j_39, j_40, j_41, j_42, j_43, j_44, j_45, j_46, j_47, j_48, j_49, j_50, j_51, j_52, j_57, j_59, j_63, j_74, j_75, j_93, j_97, j_99, j_100, j_122, j_200, j_255, j_300, j_465, j_496, j_900, j_999, j_1000, j_65536, j_65537, j_99999, j_252645135, j_858993459, j_1431655765, k_0, k_1, k_27, k_32, k_74, k_75, k_100, k_1000, k_65537, pI_J kx, eh, ei, e2, kt, en, e3]
            · rw [if_neg k3] at e3 ⊢
              by_cases k4 : k = 4
              · rw [if_pos k4] at e3 ⊢
                have en := D_raftOfZ HA.1 C2 x2 s2 c.1 c.2
                simp (disch := first | with_reducible assumption | omega | trivial) only [bn_s1, bd_s1, ei_l1, ei_r1, J_add, J_sub, J_mul, J_neg, J_lt, J_le, J_eq, dv_J, rm_J, if_pos, if_neg, ↓reduceIte, bitJ, shlJ, orJ, j_0, j_1, j_2, j_3, j_4, j_5, j_6, j_7, j_8, j_9, j_10, j_11, j_12, j_13, j_14, j_15, j_16, j_17, j_18, j_19, j_20, j_21, j_22, j_23, j_24, j_25, j_26, j_27, j_28, j_29, j_30, j_31, j_32, j_33, j_34, j_35, j_36, j_37, j_38, j_39, j_40, j_41, j_42, j_43, j_44, j_45, j_46, j_47, j_48, j_49, j_50, j_51, j_52, j_57, j_59, j_63, j_74, j_75, j_93, j_97, j_99, j_100, j_122, j_200, j_255, j_300, j_465, j_496, j_900, j_999, j_1000, j_65536, j_65537, j_99999, j_252645135, j_858993459, j_1431655765, k_0, k_1, k_27, k_32, k_74, k_75, k_100, k_1000, k_65537, pI_J kx, eh, ei, e2, kt, en, e3]
              · rw [if_neg k4] at e3 ⊢
                have en := D_guestsAt HA C2 x2 c
                simp (disch := first | with_reducible assumption | omega | trivial) only [bn_s1, bd_s1, ei_l1, ei_r1, J_add, J_sub, J_mul, J_neg, J_lt, J_le, J_eq, dv_J, rm_J, if_pos, if_neg, ↓reduceIte, bitJ, shlJ, orJ, j_0, j_1, j_2, j_3, j_4, j_5, j_6, j_7, j_8, j_9, j_10, j_11, j_12, j_13, j_14, j_15, j_16, j_17, j_18, j_19, j_20, j_21, j_22, j_23, j_24, j_25, j_26, j_27, j_28, j_29, j_30, j_31, j_32, j_33, j_34, j_35, j_36, j_37, j_38, j_39, j_40, j_41, j_42, j_43, j_44, j_45, j_46, j_47, j_48, j_49, j_50, j_51, j_52, j_57, j_59, j_63, j_74, j_75, j_93, j_97, j_99, j_100, j_122, j_200, j_255, j_300, j_465, j_496, j_900, j_999, j_1000, j_65536, j_65537, j_99999, j_252645135, j_858993459, j_1431655765, k_0, k_1, k_27, k_32, k_74, k_75, k_100, k_1000, k_65537, pI_J kx, eh, ei, e2, kt, en, e3]
    · rw [if_neg d] at ei
      rw [if_neg (fun x => d x.2), if_neg (fun x => d x.2)]
      obtain ⟨h2, e2, q2, f2⟩ := ref_e (y := 1) H1.1 (by omega)
      refine ⟨h2, ?_, q2, f2⟩
      simp (disch := first | with_reducible assumption | omega | trivial) only [bn_s1, bd_s1, ei_l1, ei_r1, J_add, J_sub, J_mul, J_neg, J_lt, J_le, J_eq, dv_J, rm_J, if_pos, if_neg, ↓reduceIte, bitJ, shlJ, orJ, j_0, j_1, j_2, j_3, j_4, j_5, j_6, j_7, j_8, j_9, j_10, j_11, j_12, j_13, j_14, j_15, j_16, j_17, j_18, j_19, j_20, j_21, j_22, j_23, j_24, j_25, j_26, j_27, j_28, j_29, j_30, j_31, j_32, j_33, j_34, j_35, j_36, j_37, j_38, j_39, j_40, j_41, j_42, j_43, j_44, j_45, j_46, j_47, j_48, j_49, j_50, j_51, j_52, j_57, j_59, j_63, j_74, j_75, j_93, j_97, j_99, j_100, j_122, j_200, j_255, j_300, j_465, j_496, j_900, j_999, j_1000, j_65536, j_65537, j_99999, j_252645135, j_858993459, j_1431655765, k_0, k_1, k_27, k_32, k_74, k_75, k_100, k_1000, k_65537, pI_J kx, eh, ei, e2]
  · rw [if_neg c] at eh
    rw [if_neg (fun x => c x.1), if_neg (fun x => c x.1)]
    obtain ⟨h2, e2, q2, f2⟩ := ref_e (y := 1) H1.1 (by omega)
    refine ⟨h2, ?_, q2, f2⟩
    try simp only [j_0, j_1, j_2, j_3, j_4, j_5, j_6, j_7, j_8, j_9, j_10, j_11, j_12, j_13, j_14, j_15, j_16, j_17, j_18, j_19, j_20, j_21, j_22, j_23, j_24, j_25, j_26, j_27, j_28, j_29, j_30, j_31, j_32, j_33, j_34, j_35, j_36, j_37, j_38, j_39, j_40, j_41, j_42, j_43, j_44, j_45, j_46, j_47, j_48, j_49, j_50, j_51, j_52, j_57, j_59, j_63, j_74, j_75, j_93, j_97, j_99, j_100, j_122, j_200, j_255, j_300, j_465, j_496, j_900, j_999, j_1000, j_65536, j_65537, j_99999, j_252645135, j_858993459, j_1431655765, k_0, k_1, k_27, k_32, k_74, k_75, k_100, k_1000, k_65537]
    simp (disch := first | with_reducible assumption | omega | trivial) only [↓bn_s1, ↓bd_s1, ↓ei_l1, ↓ei_r1, ↓bn_if, ↓ilt_1, ↓ilt_0, ↓ieq_1, ↓ieq_0, bn_s1, bd_s1, ei_l1, ei_r1, J_add, J_sub, J_mul, J_neg, J_lt, J_le, J_eq, dv_J, rm_J, if_pos, if_neg, ↓reduceIte, bitJ, shlJ, orJ, j_0, j_1, j_2, j_3, j_4, j_5, j_6, j_7, j_8, j_9, j_10, j_11, j_12, j_13, j_14, j_15, j_16, j_17, j_18, j_19, j_20, j_21, j_22, j_23, j_24, j_25, j_26, j_27, j_28, j_29, j_30, j_31, j_32, j_33, j_34, j_35, j_36, j_37, j_38, j_39, j_40, j_41, j_42, j_43, j_44, j_45, j_46, j_47, j_48, j_49, j_50, j_51, j_52, j_57, j_59, j_63, j_74, j_75, j_93, j_97, j_99, j_100, j_122, j_200, j_255, j_300, j_465, j_496, j_900, j_999, j_1000, j_65536, j_65537, j_99999, j_252645135, j_858993459, j_1431655765, k_0, k_1, k_27, k_32, k_74, k_75, k_100, k_1000, k_65537, ↓bn_e (pI_J kx), pI_J kx, ↓bn_e (eh), eh, ↓bd_e (e2), e2]
