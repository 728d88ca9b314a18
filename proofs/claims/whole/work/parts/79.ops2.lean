/-! guards in their two cases -/
theorem ref_1 {h : Hp} (k : kd h 0 = 11) (x : Int) : F_cs_refused 0 (J 1) (J x) h = some (J 1, wF h 0 12 1) := by
  have v : fi (wF h 0 12 1) 0 12 = 1 := fi_same (by omega) (by omega)
  have k' : kd (wF h 0 12 1) 0 = 11 := by rw [kd_wF]; exact k
  unfold F_cs_refused
  rw [ck_e k]
  simp (disch := first | with_reducible assumption | omega | trivial) only [bn_s1, bd_s1, ei_l1, ei_r1, gI_J, gL_J, gR_J, aI_J, aL_J, sI_J, sL_J, pI_J, pL_J, J_add, J_sub, J_mul, J_neg, J_lt, J_le, J_eq, dv_J, rm_J, if_pos, if_neg, ↓reduceIte, bitJ, shlJ, orJ, j_0, j_1, j_2, j_3, j_4, j_5, j_6, j_7, j_8, j_9, j_10, j_11, j_12, j_13, j_14, j_15, j_16, j_17, j_18, j_19, j_20, j_21, j_22, j_23, j_24, j_25, j_26, j_27, j_28, j_29, j_30, j_31, j_32, j_33, j_34, j_35, j_36, j_37, j_38, j_39, j_40, j_41, j_42, j_43, j_44, j_45, j_46, j_47, j_48, j_49, j_50, j_51, j_52, j_57, j_59, j_63, j_74, j_75, j_93, j_97, j_99, j_100, j_122, j_200, j_255, j_300, j_465, j_496, j_900, j_999, j_1000, j_65536, j_65537, j_99999, j_252645135, j_858993459, j_1431655765, k_0, k_1, k_27, k_32, k_74, k_75, k_100, k_1000, k_65537, v]
theorem ref_2 {h : Hp} (k : kd h 0 = 11) : F_cs_refused 0 (J 0) (J 1) h = some (J 1, wF h 0 12 2) := by
  have v : fi (wF h 0 12 2) 0 12 = 2 := fi_same (by omega) (by omega)
  have k' : kd (wF h 0 12 2) 0 = 11 := by rw [kd_wF]; exact k
  unfold F_cs_refused
  rw [ck_e k]
  simp (disch := first | with_reducible assumption | omega | trivial) only [bn_s1, bd_s1, ei_l1, ei_r1, gI_J, gL_J, gR_J, aI_J, aL_J, sI_J, sL_J, pI_J, pL_J, J_add, J_sub, J_mul, J_neg, J_lt, J_le, J_eq, dv_J, rm_J, if_pos, if_neg, ↓reduceIte, bitJ, shlJ, orJ, j_0, j_1, j_2, j_3, j_4, j_5, j_6, j_7, j_8, j_9, j_10, j_11, j_12, j_13, j_14, j_15, j_16, j_17, j_18, j_19, j_20, j_21, j_22, j_23, j_24, j_25, j_26, j_27, j_28, j_29, j_30, j_31, j_32, j_33, j_34, j_35, j_36, j_37, j_38, j_39, j_40, j_41, j_42, j_43, j_44, j_45, j_46, j_47, j_48, j_49, j_50, j_51, j_52, j_57, j_59, j_63, j_74, j_75, j_93, j_97, j_99, j_100, j_122, j_200, j_255, j_300, j_465, j_496, j_900, j_999, j_1000, j_65536, j_65537, j_99999, j_252645135, j_858993459, j_1431655765, k_0, k_1, k_27, k_32, k_74, k_75, k_100, k_1000, k_65537, v]
theorem ref_0 {h : Hp} (k : kd h 0 = 11) : F_cs_refused 0 (J 0) (J 0) h = some (J 0, wF h 0 12 0) := by
  have v : fi (wF h 0 12 0) 0 12 = 0 := fi_same (by omega) (by omega)
  have k' : kd (wF h 0 12 0) 0 = 11 := by rw [kd_wF]; exact k
  unfold F_cs_refused
  rw [ck_e k]
  simp (disch := first | with_reducible assumption | omega | trivial) only [bn_s1, bd_s1, ei_l1, ei_r1, gI_J, gL_J, gR_J, aI_J, aL_J, sI_J, sL_J, pI_J, pL_J, J_add, J_sub, J_mul, J_neg, J_lt, J_le, J_eq, dv_J, rm_J, if_pos, if_neg, ↓reduceIte, bitJ, shlJ, orJ, j_0, j_1, j_2, j_3, j_4, j_5, j_6, j_7, j_8, j_9, j_10, j_11, j_12, j_13, j_14, j_15, j_16, j_17, j_18, j_19, j_20, j_21, j_22, j_23, j_24, j_25, j_26, j_27, j_28, j_29, j_30, j_31, j_32, j_33, j_34, j_35, j_36, j_37, j_38, j_39, j_40, j_41, j_42, j_43, j_44, j_45, j_46, j_47, j_48, j_49, j_50, j_51, j_52, j_57, j_59, j_63, j_74, j_75, j_93, j_97, j_99, j_100, j_122, j_200, j_255, j_300, j_465, j_496, j_900, j_999, j_1000, j_65536, j_65537, j_99999, j_252645135, j_858993459, j_1431655765, k_0, k_1, k_27, k_32, k_74, k_75, k_100, k_1000, k_65537, v]
theorem fi12 (h : Hp) {v : Int} (hv : 0 ≤ v ∧ v ≤ 6) : fi (wF h 0 12 v) 0 12 = v := fi_same (by omega) (by omega)
theorem nl_1 {a : Ab} {t : Nat} {h : Hp} (HA : AW a) (H : CI a t h) (c : qL a 1 0 = 0) : F_cs_noLake 0 h = some (J 1) := by rw [C_noLake HA H, if_pos c]
theorem nl_0 {a : Ab} {t : Nat} {h : Hp} (HA : AW a) (H : CI a t h) (c : ¬ qL a 1 0 = 0) : F_cs_noLake 0 h = some (J 0) := by rw [C_noLake HA H, if_neg c]
abbrev inr (z n : Int) : Prop := 0 ≤ z ∧ z < n
abbrev rng (z : Int) : Prop := -2147483648 ≤ z ∧ z < 2147483648
theorem n1_0 {a : Ab} {t : Nat} {h : Hp} {z : Int} (HA : AW a) (H : CI a t h) (hz : rng z) (c : inr z (qL a 1 0)) : F_cs_noHouse 0 (J z) h = some (J 0) := by rw [C_noHouse HA H hz.1 hz.2, if_neg (by omega)]
theorem n1_1 {a : Ab} {t : Nat} {h : Hp} {z : Int} (HA : AW a) (H : CI a t h) (hz : rng z) (c : ¬ inr z (qL a 1 0)) : F_cs_noHouse 0 (J z) h = some (J 1) := by rw [C_noHouse HA H hz.1 hz.2, if_pos (by omega)]
theorem im1_1 {a : Ab} {h : Hp} {z : Int} (HA : AW a) (H : RI a h) (hz : rng z) (c : inr z (qL a 1 0)) : F_md_isHouse 88 (J z) h = some (J 1) := by rw [D_isHouse HA H hz.1 hz.2, if_neg (by omega)]
theorem im1_0 {a : Ab} {h : Hp} {z : Int} (HA : AW a) (H : RI a h) (hz : rng z) (c : ¬ inr z (qL a 1 0)) : F_md_isHouse 88 (J z) h = some (J 0) := by rw [D_isHouse HA H hz.1 hz.2, if_pos (by omega)]
theorem n3_0 {a : Ab} {t : Nat} {h : Hp} {z : Int} (HA : AW a) (H : CI a t h) (hz : rng z) (c : inr z (qL a 3 0)) : F_cs_noGuest 0 (J z) h = some (J 0) := by rw [C_noGuest HA H hz.1 hz.2, if_neg (by omega)]
theorem n3_1 {a : Ab} {t : Nat} {h : Hp} {z : Int} (HA : AW a) (H : CI a t h) (hz : rng z) (c : ¬ inr z (qL a 3 0)) : F_cs_noGuest 0 (J z) h = some (J 1) := by rw [C_noGuest HA H hz.1 hz.2, if_pos (by omega)]
theorem im3_1 {a : Ab} {h : Hp} {z : Int} (HA : AW a) (H : RI a h) (hz : rng z) (c : inr z (qL a 3 0)) : F_md_isGuest 88 (J z) h = some (J 1) := by rw [D_isGuest HA H hz.1 hz.2, if_neg (by omega)]
theorem im3_0 {a : Ab} {h : Hp} {z : Int} (HA : AW a) (H : RI a h) (hz : rng z) (c : ¬ inr z (qL a 3 0)) : F_md_isGuest 88 (J z) h = some (J 0) := by rw [D_isGuest HA H hz.1 hz.2, if_pos (by omega)]
theorem n2_0 {a : Ab} {t : Nat} {h : Hp} {z : Int} (HA : AW a) (H : CI a t h) (hz : rng z) (c : inr z (qL a 2 0)) : F_cs_noRope 0 (J z) h = some (J 0) := by rw [C_noRope HA H hz.1 hz.2, if_neg (by omega)]
theorem n2_1 {a : Ab} {t : Nat} {h : Hp} {z : Int} (HA : AW a) (H : CI a t h) (hz : rng z) (c : ¬ inr z (qL a 2 0)) : F_cs_noRope 0 (J z) h = some (J 1) := by rw [C_noRope HA H hz.1 hz.2, if_pos (by omega)]
theorem im2_1 {a : Ab} {h : Hp} {z : Int} (HA : AW a) (H : RI a h) (hz : rng z) (c : inr z (qL a 2 0)) : F_md_isRopeNumber 88 (J z) h = some (J 1) := by rw [D_isRopeNumber HA H hz.1 hz.2, if_neg (by omega)]
theorem im2_0 {a : Ab} {h : Hp} {z : Int} (HA : AW a) (H : RI a h) (hz : rng z) (c : ¬ inr z (qL a 2 0)) : F_md_isRopeNumber 88 (J z) h = some (J 0) := by rw [D_isRopeNumber HA H hz.1 hz.2, if_pos (by omega)]
theorem n4_0 {a : Ab} {t : Nat} {h : Hp} {z : Int} (HA : AW a) (H : CI a t h) (hz : rng z) (c : inr z (qL a 4 0)) : F_cs_noDrinker 0 (J z) h = some (J 0) := by rw [C_noDrinker HA H hz.1 hz.2, if_neg (by omega)]
theorem n4_1 {a : Ab} {t : Nat} {h : Hp} {z : Int} (HA : AW a) (H : CI a t h) (hz : rng z) (c : ¬ inr z (qL a 4 0)) : F_cs_noDrinker 0 (J z) h = some (J 1) := by rw [C_noDrinker HA H hz.1 hz.2, if_pos (by omega)]
theorem im4_1 {a : Ab} {h : Hp} {z : Int} (HA : AW a) (H : RI a h) (hz : rng z) (c : inr z (qL a 4 0)) : F_md_isDrinker 88 (J z) h = some (J 1) := by rw [D_isDrinker HA H hz.1 hz.2, if_neg (by omega)]
theorem im4_0 {a : Ab} {h : Hp} {z : Int} (HA : AW a) (H : RI a h) (hz : rng z) (c : ¬ inr z (qL a 4 0)) : F_md_isDrinker 88 (J z) h = some (J 0) := by rw [D_isDrinker HA H hz.1 hz.2, if_pos (by omega)]
theorem out_0 {z lo hi : Int} (hz : rng z) (h3 : -1000000 ≤ lo) (h4 : lo < 1000000) (h5 : -1000000 ≤ hi) (h6 : hi < 1000000) (c : lo ≤ z ∧ z ≤ hi) : F_cs_outside (J z) (J lo) (J hi) = some (J 0) := by
  rw [outs_e hz.1 hz.2 (by omega) (by omega) (by omega) (by omega), if_neg (by omega)]
theorem out_1 {z lo hi : Int} (hz : rng z) (h3 : -1000000 ≤ lo) (h4 : lo < 1000000) (h5 : -1000000 ≤ hi) (h6 : hi < 1000000) (c : ¬ (lo ≤ z ∧ z ≤ hi)) : F_cs_outside (J z) (J lo) (J hi) = some (J 1) := by
  rw [outs_e hz.1 hz.2 (by omega) (by omega) (by omega) (by omega), if_pos (by omega)]
theorem in_1 {z lo hi : Int} (hz : rng z) (h3 : -1000000 ≤ lo) (h4 : lo < 1000000) (h5 : -1000000 ≤ hi) (h6 : hi < 1000000) (c : lo ≤ z ∧ z ≤ hi) : F_md_in (J z) (J lo) (J hi) = some (J 1) := by
  rw [in_e hz.1 hz.2 (by omega) (by omega) (by omega) (by omega), if_neg (by omega)]
theorem in_0 {z lo hi : Int} (hz : rng z) (h3 : -1000000 ≤ lo) (h4 : lo < 1000000) (h5 : -1000000 ≤ hi) (h6 : hi < 1000000) (c : ¬ (lo ≤ z ∧ z ≤ hi)) : F_md_in (J z) (J lo) (J hi) = some (J 0) := by
  rw [in_e hz.1 hz.2 (by omega) (by omega) (by omega) (by omega), if_pos (by omega)]
theorem lk_1 {a : Ab} {h : Hp} (H : RI a h) (c : ¬ qL a 1 0 = 0) : ∃ b, RC (qL a) b h := by
  cases H.2.1 with
  | inl q => exact absurd q.1 c
  | inr q => exact q.2
theorem lk_0 {a : Ab} {h : Hp} (H : RI a h) (c : qL a 1 0 = 0) : fR h 88 3 = none := by
  cases H.2.1 with
  | inl q => exact q.2.1
  | inr q => exact absurd c (by omega)
theorem ref_e {h : Hp} {y : Int} (H : MS h) (hy : 0 ≤ y ∧ y ≤ 6) : ∃ h', F_md_refused 88 (J y) h = some (J (-1), h') ∧ Qr h h' ∧ fi h' 88 1 = y ∧ fi h' 88 2 = -1 := ⟨_, D_refused (MS_k H), end_2 y hy⟩
theorem good_e {h : Hp} {v : Int} (H : MS h) : ∃ h', F_md_good 88 (J v) h = some (J v, h') ∧ Qr h h' ∧ fi h' 88 1 = 0 ∧ fi h' 88 2 = -1 := ⟨_, D_good (MS_k H), end_2 0 (by omega)⟩
theorem q00 (h : Hp) : Qr h (wF h 88 0 0) := qr_w 0 (by omega)
theorem RC_qr {L : Lk} {b : Nat} {h h' : Hp} (x : Qr h h') (H : RC L b h) : RC L b h' := RC_fm x.1 (by omega) H
/-- the reference's works: x as v -/
theorem wrk {a : Ab} {h : Hp} (HA : AW a) (H : RI a h) : ∃ h', F_md_works 88 h = some h' ∧ Qr h h' ∧ XR (qS a) h' ∧ stk (qL a) (qS a) := by
  obtain ⟨h2, e2, f2, x2⟩ := D_works H.1 H.2.2.1
  exact ⟨h2, e2, qr_91 f2, x2, sw_stk (by omega) HA.2.1.1⟩
/-! lowest, rafts -/
theorem c_low {a : Ab} {t : Nat} {h : Hp} (HA : AW a) (H : CI a t h) : Cq (F_cs_lowest 0 h) h (if qL a 1 0 = 0 then -1 else (lw (hgt (qL a) (qS a)) (hn (qL a)) : Nat)) (if qL a 1 0 = 0 then 1 else 0) := by
  have k := XS_k (XV_x H.1)
  by_cases c : qL a 1 0 = 0
  · rw [if_pos c, if_pos c]
    refine ⟨wF h 0 12 1, ?_, sc_w h 1, fi12 h (by omega)⟩
    unfold F_cs_lowest
    rw [ck_e k]
    simp (disch := first | with_reducible assumption | omega | trivial) only [bn_s1, bd_s1, ei_l1, ei_r1, gI_J, gL_J, gR_J, aI_J, aL_J, sI_J, sL_J, pI_J, pL_J, J_add, J_sub, J_mul, J_neg, J_lt, J_le, J_eq, dv_J, rm_J, if_pos, if_neg, ↓reduceIte, bitJ, shlJ, orJ, j_0, j_1, j_2, j_3, j_4, j_5, j_6, j_7, j_8, j_9, j_10, j_11, j_12, j_13, j_14, j_15, j_16, j_17, j_18, j_19, j_20, j_21, j_22, j_23, j_24, j_25, j_26, j_27, j_28, j_29, j_30, j_31, j_32, j_33, j_34, j_35, j_36, j_37, j_38, j_39, j_40, j_41, j_42, j_43, j_44, j_45, j_46, j_47, j_48, j_49, j_50, j_51, j_52, j_57, j_59, j_63, j_74, j_75, j_93, j_97, j_99, j_100, j_122, j_200, j_255, j_300, j_465, j_496, j_900, j_999, j_1000, j_65536, j_65537, j_99999, j_252645135, j_858993459, j_1431655765, k_0, k_1, k_27, k_32, k_74, k_75, k_100, k_1000, k_65537, nl_1 HA H c, ref_1 k]
  · rw [if_neg c, if_neg c]
    have H1 := CI_w (v := 0) (by omega) H
    obtain ⟨h1, e1, s1, g1, m1⟩ := C_meas (AW_w (v := 0) (by omega) HA) H1
    have X1 := XV_x H1.1
    have X2 := XS_fm s1.1 X1
    have k1 := XS_k X1; have r6 := XS_r6 X1; have rt := XV_t H1.1; have r4 := XS_r4 X1; have k2 := XS_k X2; have r6' := XS_r6 X2
    have b1 := LW_h HA.1
    have eu := C_lowestHouse HA.1 (show 1 ≤ qL a 1 0 by omega) (RS_fm s1.1 (XV_r50 H1.1)) m1.1 m1.2.2.2
    refine ⟨h1, ?_, sc_tr (sc_w h 0) s1, by rw [g1]; exact fi12 h (by omega)⟩
    unfold F_cs_lowest
    rw [ck_e k]
    simp (disch := first | with_reducible assumption | omega | trivial) only [bn_s1, bd_s1, ei_l1, ei_r1, gI_J, gL_J, gR_J, aI_J, aL_J, sI_J, sL_J, pI_J, pL_J, J_add, J_sub, J_mul, J_neg, J_lt, J_le, J_eq, dv_J, rm_J, if_pos, if_neg, ↓reduceIte, bitJ, shlJ, orJ, j_0, j_1, j_2, j_3, j_4, j_5, j_6, j_7, j_8, j_9, j_10, j_11, j_12, j_13, j_14, j_15, j_16, j_17, j_18, j_19, j_20, j_21, j_22, j_23, j_24, j_25, j_26, j_27, j_28, j_29, j_30, j_31, j_32, j_33, j_34, j_35, j_36, j_37, j_38, j_39, j_40, j_41, j_42, j_43, j_44, j_45, j_46, j_47, j_48, j_49, j_50, j_51, j_52, j_57, j_59, j_63, j_74, j_75, j_93, j_97, j_99, j_100, j_122, j_200, j_255, j_300, j_465, j_496, j_900, j_999, j_1000, j_65536, j_65537, j_99999, j_252645135, j_858993459, j_1431655765, k_0, k_1, k_27, k_32, k_74, k_75, k_100, k_1000, k_65537, nl_0 HA H c, ref_0 k, r6, rt, r4, e1, r6', eu]
    rfl
theorem d_low {a : Ab} {h : Hp} (HA : AW a) (H : RI a h) : Dq (F_md_lowest 88 h) h (if qL a 1 0 = 0 then -1 else (lw (hgt (qL a) (qS a)) (hn (qL a)) : Nat)) (if qL a 1 0 = 0 then 1 else 0) := by
  have k := MS_k H.1
  have H1 := RI_0 H
  have k1 := MS_k H1.1
  by_cases c : qL a 1 0 = 0
  · rw [if_pos c, if_pos c]
    obtain ⟨h2, e2, q2, f2⟩ := ref_e (y := 1) H1.1 (by omega)
    refine ⟨h2, ?_, qr_tr (q00 h) q2, f2⟩
    unfold F_md_lowest
    rw [ck_e k]
    simp (disch := first | with_reducible assumption | omega | trivial) only [bn_s1, bd_s1, ei_l1, ei_r1, gI_J, gL_J, gR_J, aI_J, aL_J, sI_J, sL_J, pI_J, pL_J, J_add, J_sub, J_mul, J_neg, J_lt, J_le, J_eq, dv_J, rm_J, if_pos, if_neg, ↓reduceIte, bitJ, shlJ, orJ, j_0, j_1, j_2, j_3, j_4, j_5, j_6, j_7, j_8, j_9, j_10, j_11, j_12, j_13, j_14, j_15, j_16, j_17, j_18, j_19, j_20, j_21, j_22, j_23, j_24, j_25, j_26, j_27, j_28, j_29, j_30, j_31, j_32, j_33, j_34, j_35, j_36, j_37, j_38, j_39, j_40, j_41, j_42, j_43, j_44, j_45, j_46, j_47, j_48, j_49, j_50, j_51, j_52, j_57, j_59, j_63, j_74, j_75, j_93, j_97, j_99, j_100, j_122, j_200, j_255, j_300, j_465, j_496, j_900, j_999, j_1000, j_65536, j_65537, j_99999, j_252645135, j_858993459, j_1431655765, k_0, k_1, k_27, k_32, k_74, k_75, k_100, k_1000, k_65537, gQ_J, lk_0 H1 c, e2]
  · rw [if_neg c, if_neg c]
    have b1 := LW_h HA.1
    obtain ⟨b, C1⟩ := lk_1 H1 c
    have e := C1.2.1
    have ne : ¬ (some b = none) := by intro x; cases x
    obtain ⟨h2, e2, q2, x2, s2⟩ := wrk HA H1
    have C2 := RC_qr q2 C1
    have eu := D_lowestNow HA.1 (show 1 ≤ qL a 1 0 by omega) C2 x2 s2
    obtain ⟨h3, e3, q3, f3⟩ := good_e (h := h2) (v := (lw (hgt (qL a) (qS a)) (hn (qL a)) : Nat)) C2.1
    refine ⟨h3, ?_, qr_tr (q00 h) (qr_tr q2 q3), f3⟩
    unfold F_md_lowest
    rw [ck_e k]
    simp (disch := first | with_reducible assumption | omega | trivial) only [bn_s1, bd_s1, ei_l1, ei_r1, gI_J, gL_J, gR_J, aI_J, aL_J, sI_J, sL_J, pI_J, pL_J, J_add, J_sub, J_mul, J_neg, J_lt, J_le, J_eq, dv_J, rm_J, if_pos, if_neg, ↓reduceIte, bitJ, shlJ, orJ, j_0, j_1, j_2, j_3, j_4, j_5, j_6, j_7, j_8, j_9, j_10, j_11, j_12, j_13, j_14, j_15, j_16, j_17, j_18, j_19, j_20, j_21, j_22, j_23, j_24, j_25, j_26, j_27, j_28, j_29, j_30, j_31, j_32, j_33, j_34, j_35, j_36, j_37, j_38, j_39, j_40, j_41, j_42, j_43, j_44, j_45, j_46, j_47, j_48, j_49, j_50, j_51, j_52, j_57, j_59, j_63, j_74, j_75, j_93, j_97, j_99, j_100, j_122, j_200, j_255, j_300, j_465, j_496, j_900, j_999, j_1000, j_65536, j_65537, j_99999, j_252645135, j_858993459, j_1431655765, k_0, k_1, k_27, k_32, k_74, k_75, k_100, k_1000, k_65537, gQ_J, e, ne, e2, eu, e3]
theorem c_raf {a : Ab} {t : Nat} {h : Hp} (HA : AW a) (H : CI a t h) : Cq (F_cs_rafts 0 h) h (if qL a 1 0 = 0 then -1 else hmy (qL a) (qS a 28).toNat (hn (qL a))) (if qL a 1 0 = 0 then 1 else 0) := by
  have k := XS_k (XV_x H.1)
  by_cases c : qL a 1 0 = 0
  · rw [if_pos c, if_pos c]
    refine ⟨wF h 0 12 1, ?_, sc_w h 1, fi12 h (by omega)⟩
    unfold F_cs_rafts
    rw [ck_e k]
    simp (disch := first | with_reducible assumption | omega | trivial) only [bn_s1, bd_s1, ei_l1, ei_r1, gI_J, gL_J, gR_J, aI_J, aL_J, sI_J, sL_J, pI_J, pL_J, J_add, J_sub, J_mul, J_neg, J_lt, J_le, J_eq, dv_J, rm_J, if_pos, if_neg, ↓reduceIte, bitJ, shlJ, orJ, j_0, j_1, j_2, j_3, j_4, j_5, j_6, j_7, j_8, j_9, j_10, j_11, j_12, j_13, j_14, j_15, j_16, j_17, j_18, j_19, j_20, j_21, j_22, j_23, j_24, j_25, j_26, j_27, j_28, j_29, j_30, j_31, j_32, j_33, j_34, j_35, j_36, j_37, j_38, j_39, j_40, j_41, j_42, j_43, j_44, j_45, j_46, j_47, j_48, j_49, j_50, j_51, j_52, j_57, j_59, j_63, j_74, j_75, j_93, j_97, j_99, j_100, j_122, j_200, j_255, j_300, j_465, j_496, j_900, j_999, j_1000, j_65536, j_65537, j_99999, j_252645135, j_858993459, j_1431655765, k_0, k_1, k_27, k_32, k_74, k_75, k_100, k_1000, k_65537, nl_1 HA H c, ref_1 k]
  · rw [if_neg c, if_neg c]
    have H1 := CI_w (v := 0) (by omega) H
    obtain ⟨h1, e1, s1, g1, m1⟩ := C_meas (AW_w (v := 0) (by omega) HA) H1
    have X1 := XV_x H1.1
    have X2 := XS_fm s1.1 X1
    have k1 := XS_k X1; have r6 := XS_r6 X1; have rt := XV_t H1.1; have r4 := XS_r4 X1; have k2 := XS_k X2; have r6' := XS_r6 X2
    have eu := C_howMany HA.1 (RS_fm s1.1 (XV_r50 H1.1)) m1.1 m1.2.2.1
    refine ⟨h1, ?_, sc_tr (sc_w h 0) s1, by rw [g1]; exact fi12 h (by omega)⟩
    unfold F_cs_rafts
    rw [ck_e k]
    simp (disch := first | with_reducible assumption | omega | trivial) only [bn_s1, bd_s1, ei_l1, ei_r1, gI_J, gL_J, gR_J, aI_J, aL_J, sI_J, sL_J, pI_J, pL_J, J_add, J_sub, J_mul, J_neg, J_lt, J_le, J_eq, dv_J, rm_J, if_pos, if_neg, ↓reduceIte, bitJ, shlJ, orJ, j_0, j_1, j_2, j_3, j_4, j_5, j_6, j_7, j_8, j_9, j_10, j_11, j_12, j_13, j_14, j_15, j_16, j_17, j_18, j_19, j_20, j_21, j_22, j_23, j_24, j_25, j_26, j_27, j_28, j_29, j_30, j_31, j_32, j_33, j_34, j_35, j_36, j_37, j_38, j_39, j_40, j_41, j_42, j_43, j_44, j_45, j_46, j_47, j_48, j_49, j_50, j_51, j_52, j_57, j_59, j_63, j_74, j_75, j_93, j_97, j_99, j_100, j_122, j_200, j_255, j_300, j_465, j_496, j_900, j_999, j_1000, j_65536, j_65537, j_99999, j_252645135, j_858993459, j_1431655765, k_0, k_1, k_27, k_32, k_74, k_75, k_100, k_1000, k_65537, nl_0 HA H c, ref_0 k, r6, rt, r4, e1, r6', eu]
    rfl
theorem lowm : ∀ x, x < 32 → ∀ i, i < 5 → (J (x : Nat) &&& (J 1 <<< (J (i : Nat) &&& J 31) - J 1)) = J (x % 2 ^ i : Nat) := by decide +kernel
theorem d_raf {a : Ab} {h : Hp} (HA : AW a) (H : RI a h) : Dq (F_md_rafts 88 h) h (if qL a 1 0 = 0 then -1 else hmy (qL a) (qS a 28).toNat (hn (qL a))) (if qL a 1 0 = 0 then 1 else 0) := by
  have k := MS_k H.1
  have H1 := RI_0 H
  have k1 := MS_k H1.1
  by_cases c : qL a 1 0 = 0
  · rw [if_pos c, if_pos c]
    obtain ⟨h2, e2, q2, f2⟩ := ref_e (y := 1) H1.1 (by omega)
    refine ⟨h2, ?_, qr_tr (q00 h) q2, f2⟩
    unfold F_md_rafts
    rw [ck_e k]
    simp (disch := first | with_reducible assumption | omega | trivial) only [bn_s1, bd_s1, ei_l1, ei_r1, gI_J, gL_J, gR_J, aI_J, aL_J, sI_J, sL_J, pI_J, pL_J, J_add, J_sub, J_mul, J_neg, J_lt, J_le, J_eq, dv_J, rm_J, if_pos, if_neg, ↓reduceIte, bitJ, shlJ, orJ, j_0, j_1, j_2, j_3, j_4, j_5, j_6, j_7, j_8, j_9, j_10, j_11, j_12, j_13, j_14, j_15, j_16, j_17, j_18, j_19, j_20, j_21, j_22, j_23, j_24, j_25, j_26, j_27, j_28, j_29, j_30, j_31, j_32, j_33, j_34, j_35, j_36, j_37, j_38, j_39, j_40, j_41, j_42, j_43, j_44, j_45, j_46, j_47, j_48, j_49, j_50, j_51, j_52, j_57, j_59, j_63, j_74, j_75, j_93, j_97, j_99, j_100, j_122, j_200, j_255, j_300, j_465, j_496, j_900, j_999, j_1000, j_65536, j_65537, j_99999, j_252645135, j_858993459, j_1431655765, k_0, k_1, k_27, k_32, k_74, k_75, k_100, k_1000, k_65537, gQ_J, lk_0 H1 c, e2]
  · rw [if_neg c, if_neg c]
    have b1 := LW_h HA.1
    have hne := hn_e HA.1
    obtain ⟨b, C1⟩ := lk_1 H1 c
    have e := C1.2.1
    have ne : ¬ (some b = none) := by intro x; cases x
    obtain ⟨h2, e2, q2, x2, s2⟩ := wrk HA H1
    have C2 := RC_qr q2 C1
    have rb := C2.2.1
    have yk := YS_k C2.2.2.1
    have ch := C2.2.2.2.1.1.2.1
    have k2 := MS_k C2.1
    have el := lq_for (b := B_md_rafts_26 88 h2) (r := J (hmy (qL a) (qS a 28).toNat (hn (qL a)))) (f := FU) (s := (J 0, J 0)) (fun i => (J (hmy (qL a) (qS a 28).toNat i), J i)) (hn (qL a)) (by unfold FU; omega) rfl (fun i hi => by
      have e6 : hmy (qL a) (qS a 28).toNat (i + 1) = hmy (qL a) (qS a 28).toNat i + if raft (qL a) (qS a 28).toNat i % 2 ^ i = 0 then 1 else 0 := rfl
      have er := D_raftOf HA.1 C2 x2 s2.2.1 s2.2.2.1 (z := i) (by omega)
      have hp := raft_p HA.1 (qS a 28).toNat (h := i) (by omega) (by omega)
      have lm := lowm _ hp.2.1 i (by omega)
      have ml : raft (qL a) (qS a 28).toNat i % 2 ^ i < 32 := Nat.lt_of_le_of_lt (Nat.mod_le _ _) hp.2.1
      generalize hg : raft (qL a) (qS a 28).toNat i % 2 ^ i = g at lm ml e6
      have sh := shlJ (k := i) (by omega)
      unfold B_md_rafts_26
      by_cases d : g = 0
      · rw [if_pos d] at e6
        rw [d] at lm
        simp (disch := first | with_reducible assumption | omega | trivial) only [bn_s1, gI_J, gR_J, rb, ch, J_lt, if_pos, er, j_1, j_31, lm]
        simp (disch := first | with_reducible assumption | omega | trivial) only [bn_s1, bd_s1, ei_l1, ei_r1, gI_J, gL_J, gR_J, aI_J, aL_J, sI_J, sL_J, pI_J, pL_J, J_add, J_sub, J_mul, J_neg, J_lt, J_le, J_eq, dv_J, rm_J, if_pos, if_neg, ↓reduceIte, bitJ, shlJ, orJ, j_0, j_1, j_2, j_3, j_4, j_5, j_6, j_7, j_8, j_9, j_10, j_11, j_12, j_13, j_14, j_15, j_16, j_17, j_18, j_19, j_20, j_21, j_22, j_23, j_24, j_25, j_26, j_27, j_28, j_29, j_30, j_31, j_32, j_33, j_34, j_35, j_36, j_37, j_38, j_39, j_40, j_41, j_42, j_43, j_44, j_45, j_46, j_47, j_48, j_49, j_50, j_51, j_52, j_57, j_59, j_63, j_74, j_75, j_93, j_97, j_99, j_100, j_122, j_200, j_255, j_300, j_465, j_496, j_900, j_999, j_1000, j_65536, j_65537, j_99999, j_252645135, j_858993459, j_1431655765, k_0, k_1, k_27, k_32, k_74, k_75, k_100, k_1000, k_65537, e6]
        rfl
      · rw [if_neg d] at e6
        simp (disch := first | with_reducible assumption | omega | trivial) only [bn_s1, gI_J, gR_J, rb, ch, J_lt, if_pos, er, j_1, j_31, lm]
        simp (disch := first | with_reducible assumption | omega | trivial) only [bn_s1, bd_s1, ei_l1, ei_r1, gI_J, gL_J, gR_J, aI_J, aL_J, sI_J, sL_J, pI_J, pL_J, J_add, J_sub, J_mul, J_neg, J_lt, J_le, J_eq, dv_J, rm_J, if_pos, if_neg, ↓reduceIte, bitJ, shlJ, orJ, j_0, j_1, j_2, j_3, j_4, j_5, j_6, j_7, j_8, j_9, j_10, j_11, j_12, j_13, j_14, j_15, j_16, j_17, j_18, j_19, j_20, j_21, j_22, j_23, j_24, j_25, j_26, j_27, j_28, j_29, j_30, j_31, j_32, j_33, j_34, j_35, j_36, j_37, j_38, j_39, j_40, j_41, j_42, j_43, j_44, j_45, j_46, j_47, j_48, j_49, j_50, j_51, j_52, j_57, j_59, j_63, j_74, j_75, j_93, j_97, j_99, j_100, j_122, j_200, j_255, j_300, j_465, j_496, j_900, j_999, j_1000, j_65536, j_65537, j_99999, j_252645135, j_858993459, j_1431655765, k_0, k_1, k_27, k_32, k_74, k_75, k_100, k_1000, k_65537, e6]
        rfl) (by
      unfold B_md_rafts_26
      simp (disch := first | with_reducible assumption | omega | trivial) only [bn_s1, bd_s1, ei_l1, ei_r1, gI_J, gL_J, gR_J, aI_J, aL_J, sI_J, sL_J, pI_J, pL_J, J_add, J_sub, J_mul, J_neg, J_lt, J_le, J_eq, dv_J, rm_J, if_pos, if_neg, ↓reduceIte, bitJ, shlJ, orJ, j_0, j_1, j_2, j_3, j_4, j_5, j_6, j_7, j_8, j_9, j_10, j_11, j_12, j_13, j_14, j_15, j_16, j_17, j_18, j_19, j_20, j_21, j_22, j_23, j_24, j_25, j_26, j_27, j_28, j_29, j_30, j_31, j_32, j_33, j_34, j_35, j_36, j_37, j_38, j_39, j_40, j_41, j_42, j_43, j_44, j_45, j_46, j_47, j_48, j_49, j_50, j_51, j_52, j_57, j_59, j_63, j_74, j_75, j_93, j_97, j_99, j_100, j_122, j_200, j_255, j_300, j_465, j_496, j_900, j_999, j_1000, j_65536, j_65537, j_99999, j_252645135, j_858993459, j_1431655765, k_0, k_1, k_27, k_32, k_74, k_75, k_100, k_1000, k_65537, rb, ch])
    obtain ⟨h3, e3, q3, f3⟩ := good_e (h := h2) (v := hmy (qL a) (qS a 28).toNat (hn (qL a))) C2.1
    refine ⟨h3, ?_, qr_tr (q00 h) (qr_tr q2 q3), f3⟩
    unfold F_md_rafts
    rw [ck_e k]
    simp (disch := first | with_reducible assumption | omega | trivial) only [bn_s1, bd_s1, ei_l1, ei_r1, gI_J, gL_J, gR_J, aI_J, aL_J, sI_J, sL_J, pI_J, pL_J, J_add, J_sub, J_mul, J_neg, J_lt, J_le, J_eq, dv_J, rm_J, if_pos, if_neg, ↓reduceIte, bitJ, shlJ, orJ, j_0, j_1, j_2, j_3, j_4, j_5, j_6, j_7, j_8, j_9, j_10, j_11, j_12, j_13, j_14, j_15, j_16, j_17, j_18, j_19, j_20, j_21, j_22, j_23, j_24, j_25, j_26, j_27, j_28, j_29, j_30, j_31, j_32, j_33, j_34, j_35, j_36, j_37, j_38, j_39, j_40, j_41, j_42, j_43, j_44, j_45, j_46, j_47, j_48, j_49, j_50, j_51, j_52, j_57, j_59, j_63, j_74, j_75, j_93, j_97, j_99, j_100, j_122, j_200, j_255, j_300, j_465, j_496, j_900, j_999, j_1000, j_65536, j_65537, j_99999, j_252645135, j_858993459, j_1431655765, k_0, k_1, k_27, k_32, k_74, k_75, k_100, k_1000, k_65537, gQ_J, e, ne, e2, el, e3]
